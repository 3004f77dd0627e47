section
-- ===== PART A: goes FIRST, ahead of the names: the tables' words, and 'selects' of the private methods out of them =====
/-- a private method of a class that the tables say can be made, by its rows of tables_1 -/
def lw_okq (q : MethodName × Nat) : Prop := (q.1.cls ≠ "java/lang/invoke/MethodHandle" ∧ q.1.cls ≠ "java/lang/invoke/VarHandle") ∧ Cond.instantiable q.1.cls q.2 ∈ tables_1 ∧ Cond.privateMethod q.1 ∈ tables_1 ∧ Cond.instanceMethod q.1 ∈ tables_1
theorem lw_p0 : lw_okq (⟨"HearsaySeeds", "noPerson", "(I)Z"⟩, 11) := ⟨⟨by decide +kernel, by decide +kernel⟩, List.mem_of_getElem? (i := 18) (by decide +kernel), List.mem_of_getElem? (i := 287) (by decide +kernel), List.mem_of_getElem? (i := 288) (by decide +kernel)⟩
theorem lw_p1 : lw_okq (⟨"HearsaySeeds", "tryTelling", "(III)V"⟩, 11) := ⟨⟨by decide +kernel, by decide +kernel⟩, List.mem_of_getElem? (i := 18) (by decide +kernel), List.mem_of_getElem? (i := 497) (by decide +kernel), List.mem_of_getElem? (i := 498) (by decide +kernel)⟩
theorem lw_p2 : lw_okq (⟨"HearsaySeeds", "addDifferences", "(I)V"⟩, 11) := ⟨⟨by decide +kernel, by decide +kernel⟩, List.mem_of_getElem? (i := 18) (by decide +kernel), List.mem_of_getElem? (i := 527) (by decide +kernel), List.mem_of_getElem? (i := 528) (by decide +kernel)⟩
theorem lw_p3 : lw_okq (⟨"HearsaySeeds$Reader", "next", "()V"⟩, 11) := ⟨⟨by decide +kernel, by decide +kernel⟩, List.mem_of_getElem? (i := 71) (by decide +kernel), List.mem_of_getElem? (i := 561) (by decide +kernel), List.mem_of_getElem? (i := 562) (by decide +kernel)⟩
theorem lw_p4 : lw_okq (⟨"HearsaySeeds$Reader", "keyRead", "()I"⟩, 11) := ⟨⟨by decide +kernel, by decide +kernel⟩, List.mem_of_getElem? (i := 71) (by decide +kernel), List.mem_of_getElem? (i := 571) (by decide +kernel), List.mem_of_getElem? (i := 572) (by decide +kernel)⟩
theorem lw_p5 : lw_okq (⟨"HearsaySeeds$Reader", "isWord", "(Ljava/lang/String;)Z"⟩, 11) := ⟨⟨by decide +kernel, by decide +kernel⟩, List.mem_of_getElem? (i := 71) (by decide +kernel), List.mem_of_getElem? (i := 576) (by decide +kernel), List.mem_of_getElem? (i := 577) (by decide +kernel)⟩
theorem lw_p6 : lw_okq (⟨"HearsaySeeds$Reader", "finished", "(Z)Z"⟩, 11) := ⟨⟨by decide +kernel, by decide +kernel⟩, List.mem_of_getElem? (i := 71) (by decide +kernel), List.mem_of_getElem? (i := 634) (by decide +kernel), List.mem_of_getElem? (i := 635) (by decide +kernel)⟩
theorem lw_p7 : lw_okq (⟨"HearsaySeeds$Reader", "drop", "(I)V"⟩, 11) := ⟨⟨by decide +kernel, by decide +kernel⟩, List.mem_of_getElem? (i := 71) (by decide +kernel), List.mem_of_getElem? (i := 638) (by decide +kernel), List.mem_of_getElem? (i := 639) (by decide +kernel)⟩
theorem lw_p8 : lw_okq (⟨"HearsaySeeds$Reader", "topLevel", "()I"⟩, 11) := ⟨⟨by decide +kernel, by decide +kernel⟩, List.mem_of_getElem? (i := 71) (by decide +kernel), List.mem_of_getElem? (i := 642) (by decide +kernel), List.mem_of_getElem? (i := 643) (by decide +kernel)⟩
theorem lw_p9 : lw_okq (⟨"HearsaySeeds$Reader", "takesPiece", "()Z"⟩, 11) := ⟨⟨by decide +kernel, by decide +kernel⟩, List.mem_of_getElem? (i := 71) (by decide +kernel), List.mem_of_getElem? (i := 653) (by decide +kernel), List.mem_of_getElem? (i := 654) (by decide +kernel)⟩
theorem lw_p10 : lw_okq (⟨"HearsaySeeds$Reader", "takesNumber", "()Z"⟩, 11) := ⟨⟨by decide +kernel, by decide +kernel⟩, List.mem_of_getElem? (i := 71) (by decide +kernel), List.mem_of_getElem? (i := 657) (by decide +kernel), List.mem_of_getElem? (i := 658) (by decide +kernel)⟩
theorem lw_p11 : lw_okq (⟨"HearsaySeeds$Reader", "dropNots", "()V"⟩, 11) := ⟨⟨by decide +kernel, by decide +kernel⟩, List.mem_of_getElem? (i := 71) (by decide +kernel), List.mem_of_getElem? (i := 666) (by decide +kernel), List.mem_of_getElem? (i := 667) (by decide +kernel)⟩
theorem lw_p12 : lw_okq (⟨"HearsaySeeds$Reader", "takesName", "()Z"⟩, 11) := ⟨⟨by decide +kernel, by decide +kernel⟩, List.mem_of_getElem? (i := 71) (by decide +kernel), List.mem_of_getElem? (i := 670) (by decide +kernel), List.mem_of_getElem? (i := 671) (by decide +kernel)⟩
theorem lw_p13 : lw_okq (⟨"HearsaySeeds$Reader", "push", "(I)V"⟩, 11) := ⟨⟨by decide +kernel, by decide +kernel⟩, List.mem_of_getElem? (i := 71) (by decide +kernel), List.mem_of_getElem? (i := 735) (by decide +kernel), List.mem_of_getElem? (i := 736) (by decide +kernel)⟩
theorem lw_p14 : lw_okq (⟨"HearsaySeeds$Reader", "takesSign", "()Z"⟩, 11) := ⟨⟨by decide +kernel, by decide +kernel⟩, List.mem_of_getElem? (i := 71) (by decide +kernel), List.mem_of_getElem? (i := 739) (by decide +kernel), List.mem_of_getElem? (i := 740) (by decide +kernel)⟩
theorem lw_p15 : lw_okq (⟨"HearsaySeeds$Reader", "closes", "()Z"⟩, 11) := ⟨⟨by decide +kernel, by decide +kernel⟩, List.mem_of_getElem? (i := 71) (by decide +kernel), List.mem_of_getElem? (i := 743) (by decide +kernel), List.mem_of_getElem? (i := 744) (by decide +kernel)⟩
def lw_privs_1 : List (MethodName × Nat) := [(⟨"HearsaySeeds", "noPerson", "(I)Z"⟩, 11), (⟨"HearsaySeeds", "tryTelling", "(III)V"⟩, 11), (⟨"HearsaySeeds", "addDifferences", "(I)V"⟩, 11), (⟨"HearsaySeeds$Reader", "next", "()V"⟩, 11), (⟨"HearsaySeeds$Reader", "keyRead", "()I"⟩, 11), (⟨"HearsaySeeds$Reader", "isWord", "(Ljava/lang/String;)Z"⟩, 11), (⟨"HearsaySeeds$Reader", "finished", "(Z)Z"⟩, 11), (⟨"HearsaySeeds$Reader", "drop", "(I)V"⟩, 11), (⟨"HearsaySeeds$Reader", "topLevel", "()I"⟩, 11), (⟨"HearsaySeeds$Reader", "takesPiece", "()Z"⟩, 11), (⟨"HearsaySeeds$Reader", "takesNumber", "()Z"⟩, 11), (⟨"HearsaySeeds$Reader", "dropNots", "()V"⟩, 11), (⟨"HearsaySeeds$Reader", "takesName", "()Z"⟩, 11), (⟨"HearsaySeeds$Reader", "push", "(I)V"⟩, 11), (⟨"HearsaySeeds$Reader", "takesSign", "()Z"⟩, 11), (⟨"HearsaySeeds$Reader", "closes", "()Z"⟩, 11)]
theorem lw_r1 : ∀ q ∈ lw_privs_1, lw_okq q := List.forall_mem_cons.mpr ⟨lw_p0, List.forall_mem_cons.mpr ⟨lw_p1, List.forall_mem_cons.mpr ⟨lw_p2, List.forall_mem_cons.mpr ⟨lw_p3, List.forall_mem_cons.mpr ⟨lw_p4, List.forall_mem_cons.mpr ⟨lw_p5, List.forall_mem_cons.mpr ⟨lw_p6, List.forall_mem_cons.mpr ⟨lw_p7, List.forall_mem_cons.mpr ⟨lw_p8, List.forall_mem_cons.mpr ⟨lw_p9, List.forall_mem_cons.mpr ⟨lw_p10, List.forall_mem_cons.mpr ⟨lw_p11, List.forall_mem_cons.mpr ⟨lw_p12, List.forall_mem_cons.mpr ⟨lw_p13, List.forall_mem_cons.mpr ⟨lw_p14, List.forall_mem_cons.mpr ⟨lw_p15, fun _ h => absurd h List.not_mem_nil⟩⟩⟩⟩⟩⟩⟩⟩⟩⟩⟩⟩⟩⟩⟩⟩
theorem lw_p16 : lw_okq (⟨"HearsaySeedsModel", "comes", "(III)I"⟩, 33) := ⟨⟨by decide +kernel, by decide +kernel⟩, List.mem_of_getElem? (i := 839) (by decide +kernel), List.mem_of_getElem? (i := 956) (by decide +kernel), List.mem_of_getElem? (i := 957) (by decide +kernel)⟩
theorem lw_p17 : lw_okq (⟨"HearsaySeedsModel", "put", "(III)V"⟩, 33) := ⟨⟨by decide +kernel, by decide +kernel⟩, List.mem_of_getElem? (i := 839) (by decide +kernel), List.mem_of_getElem? (i := 960) (by decide +kernel), List.mem_of_getElem? (i := 961) (by decide +kernel)⟩
theorem lw_p18 : lw_okq (⟨"HearsaySeedsModel", "isPerson", "(I)Z"⟩, 33) := ⟨⟨by decide +kernel, by decide +kernel⟩, List.mem_of_getElem? (i := 839) (by decide +kernel), List.mem_of_getElem? (i := 968) (by decide +kernel), List.mem_of_getElem? (i := 969) (by decide +kernel)⟩
theorem lw_p19 : lw_okq (⟨"HearsaySeedsModel", "of", "(II)I"⟩, 33) := ⟨⟨by decide +kernel, by decide +kernel⟩, List.mem_of_getElem? (i := 839) (by decide +kernel), List.mem_of_getElem? (i := 972) (by decide +kernel), List.mem_of_getElem? (i := 973) (by decide +kernel)⟩
theorem lw_p20 : lw_okq (⟨"HearsaySeedsModel", "worthOf", "(I)I"⟩, 33) := ⟨⟨by decide +kernel, by decide +kernel⟩, List.mem_of_getElem? (i := 839) (by decide +kernel), List.mem_of_getElem? (i := 976) (by decide +kernel), List.mem_of_getElem? (i := 977) (by decide +kernel)⟩
theorem lw_p21 : lw_okq (⟨"HearsaySeedsModel", "fieldsOf", "(I)I"⟩, 33) := ⟨⟨by decide +kernel, by decide +kernel⟩, List.mem_of_getElem? (i := 839) (by decide +kernel), List.mem_of_getElem? (i := 980) (by decide +kernel), List.mem_of_getElem? (i := 981) (by decide +kernel)⟩
theorem lw_p22 : lw_okq (⟨"HearsaySeedsModel", "thinks", "(II)I"⟩, 33) := ⟨⟨by decide +kernel, by decide +kernel⟩, List.mem_of_getElem? (i := 839) (by decide +kernel), List.mem_of_getElem? (i := 984) (by decide +kernel), List.mem_of_getElem? (i := 985) (by decide +kernel)⟩
theorem lw_p23 : lw_okq (⟨"HearsaySeedsModel", "hearers", "(I)I"⟩, 33) := ⟨⟨by decide +kernel, by decide +kernel⟩, List.mem_of_getElem? (i := 839) (by decide +kernel), List.mem_of_getElem? (i := 988) (by decide +kernel), List.mem_of_getElem? (i := 989) (by decide +kernel)⟩
theorem lw_p24 : lw_okq (⟨"HearsaySeedsModel", "doesHear", "(II)Z"⟩, 33) := ⟨⟨by decide +kernel, by decide +kernel⟩, List.mem_of_getElem? (i := 839) (by decide +kernel), List.mem_of_getElem? (i := 992) (by decide +kernel), List.mem_of_getElem? (i := 993) (by decide +kernel)⟩
theorem lw_p25 : lw_okq (⟨"HearsaySeedsModel", "swaps", "(II)I"⟩, 33) := ⟨⟨by decide +kernel, by decide +kernel⟩, List.mem_of_getElem? (i := 839) (by decide +kernel), List.mem_of_getElem? (i := 1011) (by decide +kernel), List.mem_of_getElem? (i := 1012) (by decide +kernel)⟩
theorem lw_p26 : lw_okq (⟨"HearsaySeedsModel", "saysOf", "(II)I"⟩, 33) := ⟨⟨by decide +kernel, by decide +kernel⟩, List.mem_of_getElem? (i := 839) (by decide +kernel), List.mem_of_getElem? (i := 1034) (by decide +kernel), List.mem_of_getElem? (i := 1035) (by decide +kernel)⟩
theorem lw_p27 : lw_okq (⟨"HearsaySeedsModel", "firstOf", "(I)I"⟩, 33) := ⟨⟨by decide +kernel, by decide +kernel⟩, List.mem_of_getElem? (i := 839) (by decide +kernel), List.mem_of_getElem? (i := 1038) (by decide +kernel), List.mem_of_getElem? (i := 1039) (by decide +kernel)⟩
theorem lw_p28 : lw_okq (⟨"HearsaySeedsModel", "votesFor", "(II)I"⟩, 33) := ⟨⟨by decide +kernel, by decide +kernel⟩, List.mem_of_getElem? (i := 839) (by decide +kernel), List.mem_of_getElem? (i := 1042) (by decide +kernel), List.mem_of_getElem? (i := 1043) (by decide +kernel)⟩
theorem lw_p29 : lw_okq (⟨"HearsaySeedsModel", "heedsOf", "(III)I"⟩, 33) := ⟨⟨by decide +kernel, by decide +kernel⟩, List.mem_of_getElem? (i := 839) (by decide +kernel), List.mem_of_getElem? (i := 1050) (by decide +kernel), List.mem_of_getElem? (i := 1051) (by decide +kernel)⟩
theorem lw_p30 : lw_okq (⟨"HearsaySeedsModel", "thinkers", "(II)I"⟩, 33) := ⟨⟨by decide +kernel, by decide +kernel⟩, List.mem_of_getElem? (i := 839) (by decide +kernel), List.mem_of_getElem? (i := 1054) (by decide +kernel), List.mem_of_getElem? (i := 1055) (by decide +kernel)⟩
theorem lw_p31 : lw_okq (⟨"HearsaySeedsModel", "counts", "(I)I"⟩, 33) := ⟨⟨by decide +kernel, by decide +kernel⟩, List.mem_of_getElem? (i := 839) (by decide +kernel), List.mem_of_getElem? (i := 1061) (by decide +kernel), List.mem_of_getElem? (i := 1062) (by decide +kernel)⟩
def lw_privs_2 : List (MethodName × Nat) := [(⟨"HearsaySeedsModel", "comes", "(III)I"⟩, 33), (⟨"HearsaySeedsModel", "put", "(III)V"⟩, 33), (⟨"HearsaySeedsModel", "isPerson", "(I)Z"⟩, 33), (⟨"HearsaySeedsModel", "of", "(II)I"⟩, 33), (⟨"HearsaySeedsModel", "worthOf", "(I)I"⟩, 33), (⟨"HearsaySeedsModel", "fieldsOf", "(I)I"⟩, 33), (⟨"HearsaySeedsModel", "thinks", "(II)I"⟩, 33), (⟨"HearsaySeedsModel", "hearers", "(I)I"⟩, 33), (⟨"HearsaySeedsModel", "doesHear", "(II)Z"⟩, 33), (⟨"HearsaySeedsModel", "swaps", "(II)I"⟩, 33), (⟨"HearsaySeedsModel", "saysOf", "(II)I"⟩, 33), (⟨"HearsaySeedsModel", "firstOf", "(I)I"⟩, 33), (⟨"HearsaySeedsModel", "votesFor", "(II)I"⟩, 33), (⟨"HearsaySeedsModel", "heedsOf", "(III)I"⟩, 33), (⟨"HearsaySeedsModel", "thinkers", "(II)I"⟩, 33), (⟨"HearsaySeedsModel", "counts", "(I)I"⟩, 33)]
theorem lw_r2 : ∀ q ∈ lw_privs_2, lw_okq q := List.forall_mem_cons.mpr ⟨lw_p16, List.forall_mem_cons.mpr ⟨lw_p17, List.forall_mem_cons.mpr ⟨lw_p18, List.forall_mem_cons.mpr ⟨lw_p19, List.forall_mem_cons.mpr ⟨lw_p20, List.forall_mem_cons.mpr ⟨lw_p21, List.forall_mem_cons.mpr ⟨lw_p22, List.forall_mem_cons.mpr ⟨lw_p23, List.forall_mem_cons.mpr ⟨lw_p24, List.forall_mem_cons.mpr ⟨lw_p25, List.forall_mem_cons.mpr ⟨lw_p26, List.forall_mem_cons.mpr ⟨lw_p27, List.forall_mem_cons.mpr ⟨lw_p28, List.forall_mem_cons.mpr ⟨lw_p29, List.forall_mem_cons.mpr ⟨lw_p30, List.forall_mem_cons.mpr ⟨lw_p31, fun _ h => absurd h List.not_mem_nil⟩⟩⟩⟩⟩⟩⟩⟩⟩⟩⟩⟩⟩⟩⟩⟩
theorem lw_p32 : lw_okq (⟨"HearsaySeedsModel", "worksOut", "(I)I"⟩, 33) := ⟨⟨by decide +kernel, by decide +kernel⟩, List.mem_of_getElem? (i := 839) (by decide +kernel), List.mem_of_getElem? (i := 1065) (by decide +kernel), List.mem_of_getElem? (i := 1066) (by decide +kernel)⟩
theorem lw_p33 : lw_okq (⟨"HearsaySeedsModel", "draw", "()I"⟩, 33) := ⟨⟨by decide +kernel, by decide +kernel⟩, List.mem_of_getElem? (i := 839) (by decide +kernel), List.mem_of_getElem? (i := 1091) (by decide +kernel), List.mem_of_getElem? (i := 1092) (by decide +kernel)⟩
theorem lw_p34 : lw_okq (⟨"HearsaySeedsModel", "goesOn", "(I)V"⟩, 33) := ⟨⟨by decide +kernel, by decide +kernel⟩, List.mem_of_getElem? (i := 839) (by decide +kernel), List.mem_of_getElem? (i := 1104) (by decide +kernel), List.mem_of_getElem? (i := 1105) (by decide +kernel)⟩
theorem lw_p35 : lw_okq (⟨"HearsaySeedsModel", "week", "()V"⟩, 33) := ⟨⟨by decide +kernel, by decide +kernel⟩, List.mem_of_getElem? (i := 839) (by decide +kernel), List.mem_of_getElem? (i := 1108) (by decide +kernel), List.mem_of_getElem? (i := 1109) (by decide +kernel)⟩
theorem lw_p36 : lw_okq (⟨"HearsaySeedsModel", "talks", "(I)V"⟩, 33) := ⟨⟨by decide +kernel, by decide +kernel⟩, List.mem_of_getElem? (i := 839) (by decide +kernel), List.mem_of_getElem? (i := 1112) (by decide +kernel), List.mem_of_getElem? (i := 1113) (by decide +kernel)⟩
theorem lw_p37 : lw_okq (⟨"HearsaySeedsModel", "hears", "(III)V"⟩, 33) := ⟨⟨by decide +kernel, by decide +kernel⟩, List.mem_of_getElem? (i := 839) (by decide +kernel), List.mem_of_getElem? (i := 1116) (by decide +kernel), List.mem_of_getElem? (i := 1117) (by decide +kernel)⟩
theorem lw_p38 : lw_okq (⟨"HearsaySeedsModel", "passesBy", "()V"⟩, 33) := ⟨⟨by decide +kernel, by decide +kernel⟩, List.mem_of_getElem? (i := 839) (by decide +kernel), List.mem_of_getElem? (i := 1120) (by decide +kernel), List.mem_of_getElem? (i := 1121) (by decide +kernel)⟩
theorem lw_p39 : lw_okq (⟨"HearsaySeedsModel", "allSure", "()I"⟩, 33) := ⟨⟨by decide +kernel, by decide +kernel⟩, List.mem_of_getElem? (i := 839) (by decide +kernel), List.mem_of_getElem? (i := 1128) (by decide +kernel), List.mem_of_getElem? (i := 1129) (by decide +kernel)⟩
theorem lw_p40 : lw_okq (⟨"HearsaySeedsModel", "agreed", "()I"⟩, 33) := ⟨⟨by decide +kernel, by decide +kernel⟩, List.mem_of_getElem? (i := 839) (by decide +kernel), List.mem_of_getElem? (i := 1132) (by decide +kernel), List.mem_of_getElem? (i := 1133) (by decide +kernel)⟩
theorem lw_p41 : lw_okq (⟨"HearsaySeedsModel", "dreams", "()V"⟩, 33) := ⟨⟨by decide +kernel, by decide +kernel⟩, List.mem_of_getElem? (i := 839) (by decide +kernel), List.mem_of_getElem? (i := 1140) (by decide +kernel), List.mem_of_getElem? (i := 1141) (by decide +kernel)⟩
theorem lw_p42 : lw_okq (⟨"HearsaySeedsModel", "putsBack", "()V"⟩, 33) := ⟨⟨by decide +kernel, by decide +kernel⟩, List.mem_of_getElem? (i := 839) (by decide +kernel), List.mem_of_getElem? (i := 1147) (by decide +kernel), List.mem_of_getElem? (i := 1148) (by decide +kernel)⟩
theorem lw_p43 : lw_okq (⟨"HearsaySeedsModel", "isTold", "(III)V"⟩, 33) := ⟨⟨by decide +kernel, by decide +kernel⟩, List.mem_of_getElem? (i := 839) (by decide +kernel), List.mem_of_getElem? (i := 1160) (by decide +kernel), List.mem_of_getElem? (i := 1161) (by decide +kernel)⟩
theorem lw_p44 : lw_okq (⟨"HearsaySeedsModel", "doesGrow", "(IIII)Z"⟩, 33) := ⟨⟨by decide +kernel, by decide +kernel⟩, List.mem_of_getElem? (i := 839) (by decide +kernel), List.mem_of_getElem? (i := 1168) (by decide +kernel), List.mem_of_getElem? (i := 1169) (by decide +kernel)⟩
theorem lw_p45 : lw_okq (⟨"HearsaySeedsModel", "go", "()V"⟩, 33) := ⟨⟨by decide +kernel, by decide +kernel⟩, List.mem_of_getElem? (i := 839) (by decide +kernel), List.mem_of_getElem? (i := 1208) (by decide +kernel), List.mem_of_getElem? (i := 1209) (by decide +kernel)⟩
theorem lw_p46 : lw_okq (⟨"HearsaySeedsModel", "isLetter", "(I)Z"⟩, 33) := ⟨⟨by decide +kernel, by decide +kernel⟩, List.mem_of_getElem? (i := 839) (by decide +kernel), List.mem_of_getElem? (i := 1212) (by decide +kernel), List.mem_of_getElem? (i := 1213) (by decide +kernel)⟩
theorem lw_p47 : lw_okq (⟨"HearsaySeedsModel", "isFigure", "(I)Z"⟩, 33) := ⟨⟨by decide +kernel, by decide +kernel⟩, List.mem_of_getElem? (i := 839) (by decide +kernel), List.mem_of_getElem? (i := 1216) (by decide +kernel), List.mem_of_getElem? (i := 1217) (by decide +kernel)⟩
def lw_privs_3 : List (MethodName × Nat) := [(⟨"HearsaySeedsModel", "worksOut", "(I)I"⟩, 33), (⟨"HearsaySeedsModel", "draw", "()I"⟩, 33), (⟨"HearsaySeedsModel", "goesOn", "(I)V"⟩, 33), (⟨"HearsaySeedsModel", "week", "()V"⟩, 33), (⟨"HearsaySeedsModel", "talks", "(I)V"⟩, 33), (⟨"HearsaySeedsModel", "hears", "(III)V"⟩, 33), (⟨"HearsaySeedsModel", "passesBy", "()V"⟩, 33), (⟨"HearsaySeedsModel", "allSure", "()I"⟩, 33), (⟨"HearsaySeedsModel", "agreed", "()I"⟩, 33), (⟨"HearsaySeedsModel", "dreams", "()V"⟩, 33), (⟨"HearsaySeedsModel", "putsBack", "()V"⟩, 33), (⟨"HearsaySeedsModel", "isTold", "(III)V"⟩, 33), (⟨"HearsaySeedsModel", "doesGrow", "(IIII)Z"⟩, 33), (⟨"HearsaySeedsModel", "go", "()V"⟩, 33), (⟨"HearsaySeedsModel", "isLetter", "(I)Z"⟩, 33), (⟨"HearsaySeedsModel", "isFigure", "(I)Z"⟩, 33)]
theorem lw_r3 : ∀ q ∈ lw_privs_3, lw_okq q := List.forall_mem_cons.mpr ⟨lw_p32, List.forall_mem_cons.mpr ⟨lw_p33, List.forall_mem_cons.mpr ⟨lw_p34, List.forall_mem_cons.mpr ⟨lw_p35, List.forall_mem_cons.mpr ⟨lw_p36, List.forall_mem_cons.mpr ⟨lw_p37, List.forall_mem_cons.mpr ⟨lw_p38, List.forall_mem_cons.mpr ⟨lw_p39, List.forall_mem_cons.mpr ⟨lw_p40, List.forall_mem_cons.mpr ⟨lw_p41, List.forall_mem_cons.mpr ⟨lw_p42, List.forall_mem_cons.mpr ⟨lw_p43, List.forall_mem_cons.mpr ⟨lw_p44, List.forall_mem_cons.mpr ⟨lw_p45, List.forall_mem_cons.mpr ⟨lw_p46, List.forall_mem_cons.mpr ⟨lw_p47, fun _ h => absurd h List.not_mem_nil⟩⟩⟩⟩⟩⟩⟩⟩⟩⟩⟩⟩⟩⟩⟩⟩
theorem lw_p48 : lw_okq (⟨"HearsaySeedsModel", "takesKey", "()Z"⟩, 33) := ⟨⟨by decide +kernel, by decide +kernel⟩, List.mem_of_getElem? (i := 839) (by decide +kernel), List.mem_of_getElem? (i := 1220) (by decide +kernel), List.mem_of_getElem? (i := 1221) (by decide +kernel)⟩
theorem lw_p49 : lw_okq (⟨"HearsaySeedsModel", "takesE", "()Z"⟩, 33) := ⟨⟨by decide +kernel, by decide +kernel⟩, List.mem_of_getElem? (i := 839) (by decide +kernel), List.mem_of_getElem? (i := 1224) (by decide +kernel), List.mem_of_getElem? (i := 1225) (by decide +kernel)⟩
theorem lw_p50 : lw_okq (⟨"HearsaySeedsModel", "takesPart", "()Z"⟩, 33) := ⟨⟨by decide +kernel, by decide +kernel⟩, List.mem_of_getElem? (i := 839) (by decide +kernel), List.mem_of_getElem? (i := 1228) (by decide +kernel), List.mem_of_getElem? (i := 1229) (by decide +kernel)⟩
theorem lw_p51 : lw_okq (⟨"HearsaySeedsModel", "nameOf", "(I)I"⟩, 33) := ⟨⟨by decide +kernel, by decide +kernel⟩, List.mem_of_getElem? (i := 839) (by decide +kernel), List.mem_of_getElem? (i := 1232) (by decide +kernel), List.mem_of_getElem? (i := 1233) (by decide +kernel)⟩
theorem lw_p52 : lw_okq (⟨"HearsaySeedsModel", "settle", "(I)V"⟩, 33) := ⟨⟨by decide +kernel, by decide +kernel⟩, List.mem_of_getElem? (i := 839) (by decide +kernel), List.mem_of_getElem? (i := 1236) (by decide +kernel), List.mem_of_getElem? (i := 1237) (by decide +kernel)⟩
theorem lw_p53 : lw_okq (⟨"HearsaySeedsModel", "notsOpen", "()I"⟩, 33) := ⟨⟨by decide +kernel, by decide +kernel⟩, List.mem_of_getElem? (i := 839) (by decide +kernel), List.mem_of_getElem? (i := 1243) (by decide +kernel), List.mem_of_getElem? (i := 1244) (by decide +kernel)⟩
theorem lw_p54 : lw_okq (⟨"HearsaySeedsModel", "signHere", "()I"⟩, 33) := ⟨⟨by decide +kernel, by decide +kernel⟩, List.mem_of_getElem? (i := 839) (by decide +kernel), List.mem_of_getElem? (i := 1247) (by decide +kernel), List.mem_of_getElem? (i := 1248) (by decide +kernel)⟩
def lw_privs_4 : List (MethodName × Nat) := [(⟨"HearsaySeedsModel", "takesKey", "()Z"⟩, 33), (⟨"HearsaySeedsModel", "takesE", "()Z"⟩, 33), (⟨"HearsaySeedsModel", "takesPart", "()Z"⟩, 33), (⟨"HearsaySeedsModel", "nameOf", "(I)I"⟩, 33), (⟨"HearsaySeedsModel", "settle", "(I)V"⟩, 33), (⟨"HearsaySeedsModel", "notsOpen", "()I"⟩, 33), (⟨"HearsaySeedsModel", "signHere", "()I"⟩, 33)]
theorem lw_r4 : ∀ q ∈ lw_privs_4, lw_okq q := List.forall_mem_cons.mpr ⟨lw_p48, List.forall_mem_cons.mpr ⟨lw_p49, List.forall_mem_cons.mpr ⟨lw_p50, List.forall_mem_cons.mpr ⟨lw_p51, List.forall_mem_cons.mpr ⟨lw_p52, List.forall_mem_cons.mpr ⟨lw_p53, List.forall_mem_cons.mpr ⟨lw_p54, fun _ h => absurd h List.not_mem_nil⟩⟩⟩⟩⟩⟩⟩
def lw_privs : List (MethodName × Nat) := lw_privs_1 ++ (lw_privs_2 ++ (lw_privs_3 ++ (lw_privs_4)))
def lw_tbl : List Cond := k2_sels lw_privs ++ tables_1
theorem lw_privs_ok : ∀ q ∈ lw_privs, lw_okq q := by
  show ∀ q ∈ lw_privs_1 ++ (lw_privs_2 ++ (lw_privs_3 ++ (lw_privs_4))), lw_okq q
  exact List.forall_mem_append.mpr ⟨lw_r1, List.forall_mem_append.mpr ⟨lw_r2, List.forall_mem_append.mpr ⟨lw_r3, lw_r4⟩⟩⟩
-- end of PART A
end
section
def RX0 : String := "HearsaySeeds$County"
def TX0 : u_T := fun k => match k with
  | 0 => ("HearsaySeeds$County", "laws", "LHearsaySeeds$Laws;", true)
  | 1 => ("HearsaySeeds$County", "people", "I", false)
  | 2 => ("HearsaySeeds$County", "kind", "[I", true)
  | 3 => ("HearsaySeeds$County", "place", "[I", true)
  | 4 => ("HearsaySeeds$County", "trust", "[I", true)
  | 5 => ("HearsaySeeds$County", "sure", "[I", true)
  | 6 => ("HearsaySeeds$County", "thoughts", "[I", true)
  | 7 => ("HearsaySeeds$County", "sown", "[I", true)
  | 8 => ("HearsaySeeds$County", "grew", "[I", true)
  | 9 => ("HearsaySeeds$County", "weight", "I", false)
  | 10 => ("HearsaySeeds$County", "wrong", "I", false)
  | 11 => ("HearsaySeeds$County", "changed", "I", false)
  | 12 => ("HearsaySeeds$County", "week", "I", false)
  | 13 => ("HearsaySeeds$County", "z", "I", false)
  | 14 => ("HearsaySeeds$County", "texts", "I", false)
  | _ => ("HearsaySeeds$County", "latest", "[I", true)
def tyX0 : Nat → FieldType := fun k => match k with
  | 0 => .object "HearsaySeeds$Laws"
  | 1 => .int
  | 2 => .array .int
  | 3 => .array .int
  | 4 => .array .int
  | 5 => .array .int
  | 6 => .array .int
  | 7 => .array .int
  | 8 => .array .int
  | 9 => .int
  | 10 => .int
  | 11 => .int
  | 12 => .int
  | 13 => .int
  | 14 => .int
  | _ => .array .int
abbrev wsX00 : List Cond := u_ws RX0 TX0 16
theorem nmX0 : ∀ a, a < 16 → ∀ b, b < 16 → a ≠ b → (TX0 a).2.1 ≠ (TX0 b).2.1 := by decide +kernel
theorem tyX0_ok : ∀ k, k < 16 → parseFieldDescriptor (TX0 k).2.2.1 = some (tyX0 k) := by decide +kernel
abbrev cX0_init : ByteArray := prog_2_method_1_code
def yX0_init : MethodName := ⟨RX0, "<init>", "(LHearsaySeeds$Laws;)V"⟩
abbrev cX0_takeOver : ByteArray := prog_2_method_2_code
def yX0_takeOver : MethodName := ⟨RX0, "takeOver", "(LHearsaySeeds$County;)V"⟩
abbrev cX0_settle : ByteArray := prog_2_method_3_code
def yX0_settle : MethodName := ⟨RX0, "settle", "(III)V"⟩
abbrev cX0_settleByLot : ByteArray := prog_2_method_4_code
def yX0_settleByLot : MethodName := ⟨RX0, "settleByLot", "()V"⟩
abbrev cX0_draw : ByteArray := prog_2_method_5_code
def yX0_draw : MethodName := ⟨RX0, "draw", "()I"⟩
abbrev cX0_thoughtOf : ByteArray := prog_2_method_6_code
def yX0_thoughtOf : MethodName := ⟨RX0, "thoughtOf", "(II)I"⟩
abbrev cX0_think : ByteArray := prog_2_method_7_code
def yX0_think : MethodName := ⟨RX0, "think", "(III)V"⟩
abbrev cX0_fieldsThoughtOf : ByteArray := prog_2_method_8_code
def yX0_fieldsThoughtOf : MethodName := ⟨RX0, "fieldsThoughtOf", "(I)I"⟩
abbrev cX0_hears : ByteArray := prog_2_method_9_code
def yX0_hears : MethodName := ⟨RX0, "hears", "(II)Z"⟩
abbrev cX0_hearersOf : ByteArray := prog_2_method_10_code
def yX0_hearersOf : MethodName := ⟨RX0, "hearersOf", "(I)I"⟩
abbrev cX0_believersOf : ByteArray := prog_2_method_11_code
def yX0_believersOf : MethodName := ⟨RX0, "believersOf", "(II)I"⟩
abbrev cX0_votesFor : ByteArray := prog_2_method_12_code
def yX0_votesFor : MethodName := ⟨RX0, "votesFor", "(II)I"⟩
abbrev cX0_firstCrop : ByteArray := prog_2_method_13_code
def yX0_firstCrop : MethodName := ⟨RX0, "firstCrop", "(I)I"⟩
abbrev cX0_agreed : ByteArray := prog_2_method_14_code
def yX0_agreed : MethodName := ⟨RX0, "agreed", "()I"⟩
abbrev cX0_sureOfAll : ByteArray := prog_2_method_15_code
def yX0_sureOfAll : MethodName := ⟨RX0, "sureOfAll", "()I"⟩
abbrev cX0_wordOf : ByteArray := prog_2_method_16_code
def yX0_wordOf : MethodName := ⟨RX0, "wordOf", "(II)I"⟩
abbrev cX0_oneMore : ByteArray := prog_2_method_17_code
def yX0_oneMore : MethodName := ⟨RX0, "oneMore", "(I)I"⟩
abbrev cX0_tradersWord : ByteArray := prog_2_method_18_code
def yX0_tradersWord : MethodName := ⟨RX0, "tradersWord", "(I)I"⟩
abbrev cX0_heedOf : ByteArray := prog_2_method_19_code
def yX0_heedOf : MethodName := ⟨RX0, "heedOf", "(III)I"⟩
abbrev cX0_plainHeed : ByteArray := prog_2_method_20_code
def yX0_plainHeed : MethodName := ⟨RX0, "plainHeed", "(III)I"⟩
abbrev cX0_pass : ByteArray := prog_2_method_21_code
def yX0_pass : MethodName := ⟨RX0, "pass", "(I)V"⟩
abbrev cX0_speak : ByteArray := prog_2_method_22_code
def yX0_speak : MethodName := ⟨RX0, "speak", "(I)V"⟩
abbrev cX0_lookFromTheRoad : ByteArray := prog_2_method_23_code
def yX0_lookFromTheRoad : MethodName := ⟨RX0, "lookFromTheRoad", "()V"⟩
abbrev cX0_grow : ByteArray := prog_2_method_24_code
def yX0_grow : MethodName := ⟨RX0, "grow", "()V"⟩
def RX1 : String := "HearsaySeeds$Laws"
def TX1 : u_T := fun k => match k with
  | 0 => ("HearsaySeeds$Laws", "texts", "[LHearsaySeeds$Text;", true)
  | 1 => ("HearsaySeeds$Laws", "names", "[I", true)
  | _ => ("HearsaySeeds$Laws", "stack", "[I", true)
def tyX1 : Nat → FieldType := fun k => match k with
  | 0 => .array (.object "HearsaySeeds$Text")
  | 1 => .array .int
  | _ => .array .int
abbrev wsX10 : List Cond := u_ws RX1 TX1 3
theorem nmX1 : ∀ a, a < 3 → ∀ b, b < 3 → a ≠ b → (TX1 a).2.1 ≠ (TX1 b).2.1 := by decide +kernel
theorem tyX1_ok : ∀ k, k < 3 → parseFieldDescriptor (TX1 k).2.2.1 = some (tyX1 k) := by decide +kernel
abbrev cX1_init : ByteArray := prog_3_method_1_code
def yX1_init : MethodName := ⟨RX1, "<init>", "()V"⟩
abbrev cX1_given : ByteArray := prog_3_method_2_code
def yX1_given : MethodName := ⟨RX1, "given", "(I)I"⟩
abbrev cX1_joined : ByteArray := prog_3_method_3_code
def yX1_joined : MethodName := ⟨RX1, "joined", "(III)I"⟩
def RX2 : String := "HearsaySeeds$Reader"
def TX2 : u_T := fun k => match k with
  | 0 => ("HearsaySeeds$Reader", "tape", "[B", true)
  | 1 => ("HearsaySeeds$Reader", "taped", "I", false)
  | 2 => ("HearsaySeeds$Reader", "draft", "LHearsaySeeds$Text;", true)
  | 3 => ("HearsaySeeds$Reader", "token", "I", false)
  | 4 => ("HearsaySeeds$Reader", "start", "I", false)
  | 5 => ("HearsaySeeds$Reader", "at", "I", false)
  | 6 => ("HearsaySeeds$Reader", "wordEnd", "I", false)
  | 7 => ("HearsaySeeds$Reader", "signs", "[I", true)
  | 8 => ("HearsaySeeds$Reader", "high", "I", false)
  | 9 => ("HearsaySeeds$Reader", "brackets", "I", false)
  | _ => ("HearsaySeeds$Reader", "nots", "I", false)
def tyX2 : Nat → FieldType := fun k => match k with
  | 0 => .array .byte
  | 1 => .int
  | 2 => .object "HearsaySeeds$Text"
  | 3 => .int
  | 4 => .int
  | 5 => .int
  | 6 => .int
  | 7 => .array .int
  | 8 => .int
  | 9 => .int
  | _ => .int
abbrev wsX20 : List Cond := u_ws RX2 TX2 11
theorem nmX2 : ∀ a, a < 11 → ∀ b, b < 11 → a ≠ b → (TX2 a).2.1 ≠ (TX2 b).2.1 := by decide +kernel
theorem tyX2_ok : ∀ k, k < 11 → parseFieldDescriptor (TX2 k).2.2.1 = some (tyX2 k) := by decide +kernel
abbrev cX2_init : ByteArray := prog_4_method_1_code
def yX2_init : MethodName := ⟨RX2, "<init>", "()V"⟩
abbrev cX2_take : ByteArray := prog_4_method_2_code
def yX2_take : MethodName := ⟨RX2, "take", "(I)V"⟩
abbrev cX2_faultOnTape : ByteArray := prog_4_method_3_code
def yX2_faultOnTape : MethodName := ⟨RX2, "faultOnTape", "()I"⟩
abbrev cX2_finished : ByteArray := prog_4_method_4_code
def yX2_finished : MethodName := ⟨RX2, "finished", "(Z)Z"⟩
abbrev cX2_next : ByteArray := prog_4_method_5_code
def yX2_next : MethodName := ⟨RX2, "next", "()V"⟩
abbrev cX2_isLetter : ByteArray := prog_4_method_6_code
def yX2_isLetter : MethodName := ⟨RX2, "isLetter", "(I)Z"⟩
abbrev cX2_isDigit : ByteArray := prog_4_method_7_code
def yX2_isDigit : MethodName := ⟨RX2, "isDigit", "(I)Z"⟩
abbrev cX2_keyRead : ByteArray := prog_4_method_8_code
def yX2_keyRead : MethodName := ⟨RX2, "keyRead", "()I"⟩
abbrev cX2_isWord : ByteArray := prog_4_method_9_code
def yX2_isWord : MethodName := ⟨RX2, "isWord", "(Ljava/lang/String;)Z"⟩
abbrev cX2_takesPiece : ByteArray := prog_4_method_10_code
def yX2_takesPiece : MethodName := ⟨RX2, "takesPiece", "()Z"⟩
abbrev cX2_takesNumber : ByteArray := prog_4_method_11_code
def yX2_takesNumber : MethodName := ⟨RX2, "takesNumber", "()Z"⟩
abbrev cX2_takesName : ByteArray := prog_4_method_12_code
def yX2_takesName : MethodName := ⟨RX2, "takesName", "()Z"⟩
abbrev cX2_namesOf : ByteArray := prog_4_method_13_code
def yX2_namesOf : MethodName := ⟨RX2, "namesOf", "(I)Ljava/lang/String;"⟩
abbrev cX2_takesSign : ByteArray := prog_4_method_14_code
def yX2_takesSign : MethodName := ⟨RX2, "takesSign", "()Z"⟩
abbrev cX2_closes : ByteArray := prog_4_method_15_code
def yX2_closes : MethodName := ⟨RX2, "closes", "()Z"⟩
abbrev cX2_push : ByteArray := prog_4_method_16_code
def yX2_push : MethodName := ⟨RX2, "push", "(I)V"⟩
abbrev cX2_drop : ByteArray := prog_4_method_17_code
def yX2_drop : MethodName := ⟨RX2, "drop", "(I)V"⟩
abbrev cX2_dropNots : ByteArray := prog_4_method_18_code
def yX2_dropNots : MethodName := ⟨RX2, "dropNots", "()V"⟩
abbrev cX2_topLevel : ByteArray := prog_4_method_19_code
def yX2_topLevel : MethodName := ⟨RX2, "topLevel", "()I"⟩
abbrev cX2_levelOf : ByteArray := prog_4_method_20_code
def yX2_levelOf : MethodName := ⟨RX2, "levelOf", "(I)I"⟩
def RX3 : String := "HearsaySeeds$Sheet"
def TX3 : u_T := fun k => match k with
  | 0 => ("HearsaySeeds$Sheet", "sort", "I", false)
  | 1 => ("HearsaySeeds$Sheet", "length", "I", false)
  | _ => ("HearsaySeeds$Sheet", "places", "[I", true)
def tyX3 : Nat → FieldType := fun k => match k with
  | 0 => .int
  | 1 => .int
  | _ => .array .int
abbrev wsX30 : List Cond := u_ws RX3 TX3 3
theorem nmX3 : ∀ a, a < 3 → ∀ b, b < 3 → a ≠ b → (TX3 a).2.1 ≠ (TX3 b).2.1 := by decide +kernel
theorem tyX3_ok : ∀ k, k < 3 → parseFieldDescriptor (TX3 k).2.2.1 = some (tyX3 k) := by decide +kernel
abbrev cX3_init : ByteArray := prog_5_method_1_code
def yX3_init : MethodName := ⟨RX3, "<init>", "()V"⟩
abbrev cX3_begin : ByteArray := prog_5_method_2_code
def yX3_begin : MethodName := ⟨RX3, "begin", "(II)V"⟩
abbrev cX3_takeOver : ByteArray := prog_5_method_3_code
def yX3_takeOver : MethodName := ⟨RX3, "takeOver", "(LHearsaySeeds$Sheet;)V"⟩
abbrev cX3_hasNumber : ByteArray := prog_5_method_4_code
def yX3_hasNumber : MethodName := ⟨RX3, "hasNumber", "(I)Z"⟩
abbrev cX3_lacks : ByteArray := prog_5_method_5_code
def yX3_lacks : MethodName := ⟨RX3, "lacks", "(II)Z"⟩
def RX4 : String := "HearsaySeeds$Slot"
def TX4 : u_T := fun k => match k with
  | 0 => ("HearsaySeeds$Slot", "thing", "I", false)
  | 1 => ("HearsaySeeds$Slot", "kind", "I", false)
  | 2 => ("HearsaySeeds$Slot", "number", "I", false)
  | _ => ("HearsaySeeds$Slot", "row", "LHearsaySeeds$Sheet;", true)
def tyX4 : Nat → FieldType := fun k => match k with
  | 0 => .int
  | 1 => .int
  | 2 => .int
  | _ => .object "HearsaySeeds$Sheet"
abbrev wsX40 : List Cond := u_ws RX4 TX4 4
theorem nmX4 : ∀ a, a < 4 → ∀ b, b < 4 → a ≠ b → (TX4 a).2.1 ≠ (TX4 b).2.1 := by decide +kernel
theorem tyX4_ok : ∀ k, k < 4 → parseFieldDescriptor (TX4 k).2.2.1 = some (tyX4 k) := by decide +kernel
abbrev cX4_init : ByteArray := prog_6_method_1_code
def yX4_init : MethodName := ⟨RX4, "<init>", "()V"⟩
def RX5 : String := "HearsaySeeds$Text"
def TX5 : u_T := fun k => match k with
  | 0 => ("HearsaySeeds$Text", "key", "I", false)
  | 1 => ("HearsaySeeds$Text", "leaves", "I", false)
  | 2 => ("HearsaySeeds$Text", "length", "I", false)
  | _ => ("HearsaySeeds$Text", "code", "[I", true)
def tyX5 : Nat → FieldType := fun k => match k with
  | 0 => .int
  | 1 => .int
  | 2 => .int
  | _ => .array .int
abbrev wsX50 : List Cond := u_ws RX5 TX5 4
theorem nmX5 : ∀ a, a < 4 → ∀ b, b < 4 → a ≠ b → (TX5 a).2.1 ≠ (TX5 b).2.1 := by decide +kernel
theorem tyX5_ok : ∀ k, k < 4 → parseFieldDescriptor (TX5 k).2.2.1 = some (tyX5 k) := by decide +kernel
abbrev cX5_init : ByteArray := prog_7_method_1_code
def yX5_init : MethodName := ⟨RX5, "<init>", "()V"⟩
abbrev cX5_begin : ByteArray := prog_7_method_2_code
def yX5_begin : MethodName := ⟨RX5, "begin", "(I)V"⟩
abbrev cX5_takeOver : ByteArray := prog_7_method_3_code
def yX5_takeOver : MethodName := ⟨RX5, "takeOver", "(LHearsaySeeds$Text;)V"⟩
abbrev cX5_add : ByteArray := prog_7_method_4_code
def yX5_add : MethodName := ⟨RX5, "add", "(I)V"⟩
abbrev cX5_addLeaf : ByteArray := prog_7_method_5_code
def yX5_addLeaf : MethodName := ⟨RX5, "addLeaf", "(I)V"⟩
def RX6 : String := "HearsaySeeds"
def TX6 : u_T := fun k => match k with
  | 0 => ("HearsaySeeds", "laws", "LHearsaySeeds$Laws;", true)
  | 1 => ("HearsaySeeds", "reader", "LHearsaySeeds$Reader;", true)
  | 2 => ("HearsaySeeds", "now", "LHearsaySeeds$County;", true)
  | 3 => ("HearsaySeeds", "image", "LHearsaySeeds$County;", true)
  | 4 => ("HearsaySeeds", "trial", "LHearsaySeeds$County;", true)
  | 5 => ("HearsaySeeds", "hasImage", "Z", false)
  | 6 => ("HearsaySeeds", "sheets", "[LHearsaySeeds$Sheet;", true)
  | 7 => ("HearsaySeeds", "slots", "[LHearsaySeeds$Slot;", true)
  | 8 => ("HearsaySeeds", "waiting", "[I", true)
  | 9 => ("HearsaySeeds", "waits", "I", false)
  | _ => ("HearsaySeeds", "apart", "[I", true)
def tyX6 : Nat → FieldType := fun k => match k with
  | 0 => .object "HearsaySeeds$Laws"
  | 1 => .object "HearsaySeeds$Reader"
  | 2 => .object "HearsaySeeds$County"
  | 3 => .object "HearsaySeeds$County"
  | 4 => .object "HearsaySeeds$County"
  | 5 => .boolean
  | 6 => .array (.object "HearsaySeeds$Sheet")
  | 7 => .array (.object "HearsaySeeds$Slot")
  | 8 => .array .int
  | 9 => .int
  | _ => .array .int
abbrev wsX60 : List Cond := u_ws RX6 TX6 11
theorem nmX6 : ∀ a, a < 11 → ∀ b, b < 11 → a ≠ b → (TX6 a).2.1 ≠ (TX6 b).2.1 := by decide +kernel
theorem tyX6_ok : ∀ k, k < 11 → parseFieldDescriptor (TX6 k).2.2.1 = some (tyX6 k) := by decide +kernel
abbrev cX6_init : ByteArray := prog_1_method_1_code
def yX6_init : MethodName := ⟨RX6, "<init>", "()V"⟩
abbrev cX6_person : ByteArray := prog_1_method_2_code
def yX6_person : MethodName := ⟨RX6, "person", "(III)I"⟩
abbrev cX6_told : ByteArray := prog_1_method_3_code
def yX6_told : MethodName := ⟨RX6, "told", "(II)I"⟩
abbrev cX6_as : ByteArray := prog_1_method_4_code
def yX6_as : MethodName := ⟨RX6, "as", "(II)I"⟩
abbrev cX6_turns : ByteArray := prog_1_method_5_code
def yX6_turns : MethodName := ⟨RX6, "turns", "(II)I"⟩
abbrev cX6_set : ByteArray := prog_1_method_6_code
def yX6_set : MethodName := ⟨RX6, "set", "(III)I"⟩
abbrev cX6_thought : ByteArray := prog_1_method_7_code
def yX6_thought : MethodName := ⟨RX6, "thought", "(II)I"⟩
abbrev cX6_lets : ByteArray := prog_1_method_8_code
def yX6_lets : MethodName := ⟨RX6, "lets", "(III)I"⟩
abbrev cX6_says : ByteArray := prog_1_method_9_code
def yX6_says : MethodName := ⟨RX6, "says", "(II)I"⟩
abbrev cX6_heeds : ByteArray := prog_1_method_10_code
def yX6_heeds : MethodName := ⟨RX6, "heeds", "(III)I"⟩
abbrev cX6_sow : ByteArray := prog_1_method_11_code
def yX6_sow : MethodName := ⟨RX6, "sow", "(II)I"⟩
abbrev cX6_field : ByteArray := prog_1_method_12_code
def yX6_field : MethodName := ⟨RX6, "field", "(II)I"⟩
abbrev cX6_votes : ByteArray := prog_1_method_13_code
def yX6_votes : MethodName := ⟨RX6, "votes", "(II)I"⟩
abbrev cX6_deal : ByteArray := prog_1_method_14_code
def yX6_deal : MethodName := ⟨RX6, "deal", "(I)I"⟩
abbrev cX6_seed : ByteArray := prog_1_method_15_code
def yX6_seed : MethodName := ⟨RX6, "seed", "(I)I"⟩
abbrev cX6_weeks : ByteArray := prog_1_method_16_code
def yX6_weeks : MethodName := ⟨RX6, "weeks", "(I)I"⟩
abbrev cX6_county : ByteArray := prog_1_method_17_code
def yX6_county : MethodName := ⟨RX6, "county", "(I)I"⟩
abbrev cX6_behind : ByteArray := prog_1_method_18_code
def yX6_behind : MethodName := ⟨RX6, "behind", "(II)I"⟩
abbrev cX6_first : ByteArray := prog_1_method_19_code
def yX6_first : MethodName := ⟨RX6, "first", "(II)I"⟩
abbrev cX6_ear : ByteArray := prog_1_method_20_code
def yX6_ear : MethodName := ⟨RX6, "ear", "(IIII)I"⟩
abbrev cX6_fewest : ByteArray := prog_1_method_21_code
def yX6_fewest : MethodName := ⟨RX6, "fewest", "(III)I"⟩
abbrev cX6_house : ByteArray := prog_1_method_22_code
def yX6_house : MethodName := ⟨RX6, "house", "(III)I"⟩
abbrev cX6_becomes : ByteArray := prog_1_method_23_code
def yX6_becomes : MethodName := ⟨RX6, "becomes", "(III)I"⟩
abbrev cX6_like : ByteArray := prog_1_method_24_code
def yX6_like : MethodName := ⟨RX6, "like", "(II)I"⟩
abbrev cX6_fee : ByteArray := prog_1_method_25_code
def yX6_fee : MethodName := ⟨RX6, "fee", "()I"⟩
abbrev cX6_fine : ByteArray := prog_1_method_26_code
def yX6_fine : MethodName := ⟨RX6, "fine", "(I)I"⟩
abbrev cX6_feed : ByteArray := prog_1_method_27_code
def yX6_feed : MethodName := ⟨RX6, "feed", "(III)I"⟩
abbrev cX6_trim : ByteArray := prog_1_method_28_code
def yX6_trim : MethodName := ⟨RX6, "trim", "(I)I"⟩
abbrev cX6_text : ByteArray := prog_1_method_29_code
def yX6_text : MethodName := ⟨RX6, "text", "()I"⟩
abbrev cX6_textTold : ByteArray := prog_1_method_30_code
def yX6_textTold : MethodName := ⟨RX6, "textTold", "(II)I"⟩
abbrev cX6_why : ByteArray := prog_1_method_31_code
def yX6_why : MethodName := ⟨RX6, "why", "(I)I"⟩
abbrev cX6_sheet : ByteArray := prog_1_method_32_code
def yX6_sheet : MethodName := ⟨RX6, "sheet", "(III)I"⟩
abbrev cX6_mark : ByteArray := prog_1_method_33_code
def yX6_mark : MethodName := ⟨RX6, "mark", "(III)I"⟩
abbrev cX6_pour : ByteArray := prog_1_method_34_code
def yX6_pour : MethodName := ⟨RX6, "pour", "(I)I"⟩
abbrev cX6_reads : ByteArray := prog_1_method_35_code
def yX6_reads : MethodName := ⟨RX6, "reads", "(I)I"⟩
abbrev cX6_copy : ByteArray := prog_1_method_36_code
def yX6_copy : MethodName := ⟨RX6, "copy", "(IIIII)I"⟩
abbrev cX6_lay : ByteArray := prog_1_method_37_code
def yX6_lay : MethodName := ⟨RX6, "lay", "(III)I"⟩
abbrev cX6_ask : ByteArray := prog_1_method_38_code
def yX6_ask : MethodName := ⟨RX6, "ask", "(II)I"⟩
abbrev cX6_item : ByteArray := prog_1_method_39_code
def yX6_item : MethodName := ⟨RX6, "item", "(II)I"⟩
abbrev cX6_rest : ByteArray := prog_1_method_40_code
def yX6_rest : MethodName := ⟨RX6, "rest", "(II)I"⟩
abbrev cX6_tell : ByteArray := prog_1_method_41_code
def yX6_tell : MethodName := ⟨RX6, "tell", "(I)I"⟩
abbrev cX6_check : ByteArray := prog_1_method_42_code
def yX6_check : MethodName := ⟨RX6, "check", "(I)I"⟩
abbrev cX6_keep : ByteArray := prog_1_method_43_code
def yX6_keep : MethodName := ⟨RX6, "keep", "()I"⟩
abbrev cX6_back : ByteArray := prog_1_method_44_code
def yX6_back : MethodName := ⟨RX6, "back", "()I"⟩
abbrev cX6_count : ByteArray := prog_1_method_45_code
def yX6_count : MethodName := ⟨RX6, "count", "(I)I"⟩
abbrev cX6_outside : ByteArray := prog_1_method_46_code
def yX6_outside : MethodName := ⟨RX6, "outside", "(III)Z"⟩
abbrev cX6_within : ByteArray := prog_1_method_47_code
def yX6_within : MethodName := ⟨RX6, "within", "(III)I"⟩
abbrev cX6_noKind : ByteArray := prog_1_method_48_code
def yX6_noKind : MethodName := ⟨RX6, "noKind", "(I)Z"⟩
abbrev cX6_noField : ByteArray := prog_1_method_49_code
def yX6_noField : MethodName := ⟨RX6, "noField", "(I)Z"⟩
abbrev cX6_noSheet : ByteArray := prog_1_method_50_code
def yX6_noSheet : MethodName := ⟨RX6, "noSheet", "(I)Z"⟩
abbrev cX6_noSlot : ByteArray := prog_1_method_51_code
def yX6_noSlot : MethodName := ⟨RX6, "noSlot", "(I)Z"⟩
abbrev cX6_noPerson : ByteArray := prog_1_method_52_code
def yX6_noPerson : MethodName := ⟨RX6, "noPerson", "(I)Z"⟩
abbrev cX6_isOf : ByteArray := prog_1_method_53_code
def yX6_isOf : MethodName := ⟨RX6, "isOf", "(II)Z"⟩
abbrev cX6_replaced : ByteArray := prog_1_method_54_code
def yX6_replaced : MethodName := ⟨RX6, "replaced", "([IIII)I"⟩
abbrev cX6_tryTelling : ByteArray := prog_1_method_55_code
def yX6_tryTelling : MethodName := ⟨RX6, "tryTelling", "(III)V"⟩
abbrev cX6_addDifferences : ByteArray := prog_1_method_56_code
def yX6_addDifferences : MethodName := ⟨RX6, "addDifferences", "(I)V"⟩
def RX7 : String := "HearsaySeedsModel"
def TX7 : u_T := fun k => match k with
  | 0 => ("HearsaySeedsModel", "now", "[I", true)
  | 1 => ("HearsaySeedsModel", "image", "[I", true)
  | 2 => ("HearsaySeedsModel", "aside", "[I", true)
  | 3 => ("HearsaySeedsModel", "hasImage", "Z", false)
  | 4 => ("HearsaySeedsModel", "unlike", "[I", true)
  | 5 => ("HearsaySeedsModel", "tape", "[I", true)
  | 6 => ("HearsaySeedsModel", "taped", "I", false)
  | 7 => ("HearsaySeedsModel", "next", "I", false)
  | 8 => ("HearsaySeedsModel", "from", "I", false)
  | 9 => ("HearsaySeedsModel", "token", "I", false)
  | 10 => ("HearsaySeedsModel", "value", "I", false)
  | 11 => ("HearsaySeedsModel", "ended", "I", false)
  | 12 => ("HearsaySeedsModel", "key", "I", false)
  | 13 => ("HearsaySeedsModel", "keys", "[C", true)
  | 14 => ("HearsaySeedsModel", "keyAt", "[I", true)
  | 15 => ("HearsaySeedsModel", "code", "[I", true)
  | 16 => ("HearsaySeedsModel", "codes", "I", false)
  | 17 => ("HearsaySeedsModel", "atoms", "I", false)
  | 18 => ("HearsaySeedsModel", "waits", "[I", true)
  | 19 => ("HearsaySeedsModel", "held", "I", false)
  | 20 => ("HearsaySeedsModel", "tested", "[Z", true)
  | 21 => ("HearsaySeedsModel", "stack", "[I", true)
  | 22 => ("HearsaySeedsModel", "facts", "[I", true)
  | 23 => ("HearsaySeedsModel", "sorts", "[I", true)
  | 24 => ("HearsaySeedsModel", "sizes", "[I", true)
  | 25 => ("HearsaySeedsModel", "cells", "[I", true)
  | 26 => ("HearsaySeedsModel", "holds", "[I", true)
  | 27 => ("HearsaySeedsModel", "holdsA", "[I", true)
  | 28 => ("HearsaySeedsModel", "holdsB", "[I", true)
  | 29 => ("HearsaySeedsModel", "heldCells", "[I", true)
  | 30 => ("HearsaySeedsModel", "moved", "[I", true)
  | 31 => ("HearsaySeedsModel", "tells", "[I", true)
  | _ => ("HearsaySeedsModel", "waiting", "I", false)
def tyX7 : Nat → FieldType := fun k => match k with
  | 0 => .array .int
  | 1 => .array .int
  | 2 => .array .int
  | 3 => .boolean
  | 4 => .array .int
  | 5 => .array .int
  | 6 => .int
  | 7 => .int
  | 8 => .int
  | 9 => .int
  | 10 => .int
  | 11 => .int
  | 12 => .int
  | 13 => .array .char
  | 14 => .array .int
  | 15 => .array .int
  | 16 => .int
  | 17 => .int
  | 18 => .array .int
  | 19 => .int
  | 20 => .array .boolean
  | 21 => .array .int
  | 22 => .array .int
  | 23 => .array .int
  | 24 => .array .int
  | 25 => .array .int
  | 26 => .array .int
  | 27 => .array .int
  | 28 => .array .int
  | 29 => .array .int
  | 30 => .array .int
  | 31 => .array .int
  | _ => .int
abbrev wsX70 : List Cond := u_ws RX7 TX7 33
theorem nmX7 : ∀ a, a < 33 → ∀ b, b < 33 → a ≠ b → (TX7 a).2.1 ≠ (TX7 b).2.1 := by decide +kernel
theorem tyX7_ok : ∀ k, k < 33 → parseFieldDescriptor (TX7 k).2.2.1 = some (tyX7 k) := by decide +kernel
abbrev cX7_init : ByteArray := prog_9_method_1_code
def yX7_init : MethodName := ⟨RX7, "<init>", "()V"⟩
abbrev cX7_in : ByteArray := prog_9_method_2_code
def yX7_in : MethodName := ⟨RX7, "in", "(III)Z"⟩
abbrev cX7_within : ByteArray := prog_9_method_3_code
def yX7_within : MethodName := ⟨RX7, "within", "(III)I"⟩
abbrev cX7_copyAll : ByteArray := prog_9_method_4_code
def yX7_copyAll : MethodName := ⟨RX7, "copyAll", "([I[I)V"⟩
abbrev cX7_bits : ByteArray := prog_9_method_5_code
def yX7_bits : MethodName := ⟨RX7, "bits", "(I)I"⟩
abbrev cX7_isPerson : ByteArray := prog_9_method_6_code
def yX7_isPerson : MethodName := ⟨RX7, "isPerson", "(I)Z"⟩
abbrev cX7_isField : ByteArray := prog_9_method_7_code
def yX7_isField : MethodName := ⟨RX7, "isField", "(I)Z"⟩
abbrev cX7_of : ByteArray := prog_9_method_8_code
def yX7_of : MethodName := ⟨RX7, "of", "(II)I"⟩
abbrev cX7_put : ByteArray := prog_9_method_9_code
def yX7_put : MethodName := ⟨RX7, "put", "(III)V"⟩
abbrev cX7_thinks : ByteArray := prog_9_method_10_code
def yX7_thinks : MethodName := ⟨RX7, "thinks", "(II)I"⟩
abbrev cX7_swaps : ByteArray := prog_9_method_11_code
def yX7_swaps : MethodName := ⟨RX7, "swaps", "(II)I"⟩
abbrev cX7_off : ByteArray := prog_9_method_12_code
def yX7_off : MethodName := ⟨RX7, "off", "(I)I"⟩
abbrev cX7_worthOf : ByteArray := prog_9_method_13_code
def yX7_worthOf : MethodName := ⟨RX7, "worthOf", "(I)I"⟩
abbrev cX7_thinkers : ByteArray := prog_9_method_14_code
def yX7_thinkers : MethodName := ⟨RX7, "thinkers", "(II)I"⟩
abbrev cX7_votesFor : ByteArray := prog_9_method_15_code
def yX7_votesFor : MethodName := ⟨RX7, "votesFor", "(II)I"⟩
abbrev cX7_firstOf : ByteArray := prog_9_method_16_code
def yX7_firstOf : MethodName := ⟨RX7, "firstOf", "(I)I"⟩
abbrev cX7_saysOf : ByteArray := prog_9_method_17_code
def yX7_saysOf : MethodName := ⟨RX7, "saysOf", "(II)I"⟩
abbrev cX7_heedsOf : ByteArray := prog_9_method_18_code
def yX7_heedsOf : MethodName := ⟨RX7, "heedsOf", "(III)I"⟩
abbrev cX7_doesHear : ByteArray := prog_9_method_19_code
def yX7_doesHear : MethodName := ⟨RX7, "doesHear", "(II)Z"⟩
abbrev cX7_comes : ByteArray := prog_9_method_20_code
def yX7_comes : MethodName := ⟨RX7, "comes", "(III)I"⟩
abbrev cX7_person : ByteArray := prog_9_method_21_code
def yX7_person : MethodName := ⟨RX7, "person", "(III)I"⟩
abbrev cX7_fieldsOf : ByteArray := prog_9_method_22_code
def yX7_fieldsOf : MethodName := ⟨RX7, "fieldsOf", "(I)I"⟩
abbrev cX7_hearers : ByteArray := prog_9_method_23_code
def yX7_hearers : MethodName := ⟨RX7, "hearers", "(I)I"⟩
abbrev cX7_told : ByteArray := prog_9_method_24_code
def yX7_told : MethodName := ⟨RX7, "told", "(II)I"⟩
abbrev cX7_isUnder : ByteArray := prog_9_method_25_code
def yX7_isUnder : MethodName := ⟨RX7, "isUnder", "(II)Z"⟩
abbrev cX7_as : ByteArray := prog_9_method_26_code
def yX7_as : MethodName := ⟨RX7, "as", "(II)I"⟩
abbrev cX7_turns : ByteArray := prog_9_method_27_code
def yX7_turns : MethodName := ⟨RX7, "turns", "(II)I"⟩
abbrev cX7_set : ByteArray := prog_9_method_28_code
def yX7_set : MethodName := ⟨RX7, "set", "(III)I"⟩
abbrev cX7_thought : ByteArray := prog_9_method_29_code
def yX7_thought : MethodName := ⟨RX7, "thought", "(II)I"⟩
abbrev cX7_lets : ByteArray := prog_9_method_30_code
def yX7_lets : MethodName := ⟨RX7, "lets", "(III)I"⟩
abbrev cX7_says : ByteArray := prog_9_method_31_code
def yX7_says : MethodName := ⟨RX7, "says", "(II)I"⟩
abbrev cX7_heeds : ByteArray := prog_9_method_32_code
def yX7_heeds : MethodName := ⟨RX7, "heeds", "(III)I"⟩
abbrev cX7_sow : ByteArray := prog_9_method_33_code
def yX7_sow : MethodName := ⟨RX7, "sow", "(II)I"⟩
abbrev cX7_field : ByteArray := prog_9_method_34_code
def yX7_field : MethodName := ⟨RX7, "field", "(II)I"⟩
abbrev cX7_votes : ByteArray := prog_9_method_35_code
def yX7_votes : MethodName := ⟨RX7, "votes", "(II)I"⟩
abbrev cX7_draw : ByteArray := prog_9_method_36_code
def yX7_draw : MethodName := ⟨RX7, "draw", "()I"⟩
abbrev cX7_deal : ByteArray := prog_9_method_37_code
def yX7_deal : MethodName := ⟨RX7, "deal", "(I)I"⟩
abbrev cX7_seed : ByteArray := prog_9_method_38_code
def yX7_seed : MethodName := ⟨RX7, "seed", "(I)I"⟩
abbrev cX7_hears : ByteArray := prog_9_method_39_code
def yX7_hears : MethodName := ⟨RX7, "hears", "(III)V"⟩
abbrev cX7_talks : ByteArray := prog_9_method_40_code
def yX7_talks : MethodName := ⟨RX7, "talks", "(I)V"⟩
abbrev cX7_passesBy : ByteArray := prog_9_method_41_code
def yX7_passesBy : MethodName := ⟨RX7, "passesBy", "()V"⟩
abbrev cX7_week : ByteArray := prog_9_method_42_code
def yX7_week : MethodName := ⟨RX7, "week", "()V"⟩
abbrev cX7_goesOn : ByteArray := prog_9_method_43_code
def yX7_goesOn : MethodName := ⟨RX7, "goesOn", "(I)V"⟩
abbrev cX7_weeks : ByteArray := prog_9_method_44_code
def yX7_weeks : MethodName := ⟨RX7, "weeks", "(I)I"⟩
abbrev cX7_agreed : ByteArray := prog_9_method_45_code
def yX7_agreed : MethodName := ⟨RX7, "agreed", "()I"⟩
abbrev cX7_allSure : ByteArray := prog_9_method_46_code
def yX7_allSure : MethodName := ⟨RX7, "allSure", "()I"⟩
abbrev cX7_county : ByteArray := prog_9_method_47_code
def yX7_county : MethodName := ⟨RX7, "county", "(I)I"⟩
abbrev cX7_dreams : ByteArray := prog_9_method_48_code
def yX7_dreams : MethodName := ⟨RX7, "dreams", "()V"⟩
abbrev cX7_putsBack : ByteArray := prog_9_method_49_code
def yX7_putsBack : MethodName := ⟨RX7, "putsBack", "()V"⟩
abbrev cX7_behind : ByteArray := prog_9_method_50_code
def yX7_behind : MethodName := ⟨RX7, "behind", "(II)I"⟩
abbrev cX7_first : ByteArray := prog_9_method_51_code
def yX7_first : MethodName := ⟨RX7, "first", "(II)I"⟩
abbrev cX7_isTold : ByteArray := prog_9_method_52_code
def yX7_isTold : MethodName := ⟨RX7, "isTold", "(III)V"⟩
abbrev cX7_ear : ByteArray := prog_9_method_53_code
def yX7_ear : MethodName := ⟨RX7, "ear", "(IIII)I"⟩
abbrev cX7_doesGrow : ByteArray := prog_9_method_54_code
def yX7_doesGrow : MethodName := ⟨RX7, "doesGrow", "(IIII)Z"⟩
abbrev cX7_fewest : ByteArray := prog_9_method_55_code
def yX7_fewest : MethodName := ⟨RX7, "fewest", "(III)I"⟩
abbrev cX7_house : ByteArray := prog_9_method_56_code
def yX7_house : MethodName := ⟨RX7, "house", "(III)I"⟩
abbrev cX7_becomes : ByteArray := prog_9_method_57_code
def yX7_becomes : MethodName := ⟨RX7, "becomes", "(III)I"⟩
abbrev cX7_like : ByteArray := prog_9_method_58_code
def yX7_like : MethodName := ⟨RX7, "like", "(II)I"⟩
abbrev cX7_fee : ByteArray := prog_9_method_59_code
def yX7_fee : MethodName := ⟨RX7, "fee", "()I"⟩
abbrev cX7_fine : ByteArray := prog_9_method_60_code
def yX7_fine : MethodName := ⟨RX7, "fine", "(I)I"⟩
abbrev cX7_feed : ByteArray := prog_9_method_61_code
def yX7_feed : MethodName := ⟨RX7, "feed", "(III)I"⟩
abbrev cX7_trim : ByteArray := prog_9_method_62_code
def yX7_trim : MethodName := ⟨RX7, "trim", "(I)I"⟩
abbrev cX7_isLetter : ByteArray := prog_9_method_63_code
def yX7_isLetter : MethodName := ⟨RX7, "isLetter", "(I)Z"⟩
abbrev cX7_isFigure : ByteArray := prog_9_method_64_code
def yX7_isFigure : MethodName := ⟨RX7, "isFigure", "(I)Z"⟩
abbrev cX7_go : ByteArray := prog_9_method_65_code
def yX7_go : MethodName := ⟨RX7, "go", "()V"⟩
abbrev cX7_takesKey : ByteArray := prog_9_method_66_code
def yX7_takesKey : MethodName := ⟨RX7, "takesKey", "()Z"⟩
abbrev cX7_nameOf : ByteArray := prog_9_method_67_code
def yX7_nameOf : MethodName := ⟨RX7, "nameOf", "(I)I"⟩
abbrev cX7_rank : ByteArray := prog_9_method_68_code
def yX7_rank : MethodName := ⟨RX7, "rank", "(I)I"⟩
abbrev cX7_settle : ByteArray := prog_9_method_69_code
def yX7_settle : MethodName := ⟨RX7, "settle", "(I)V"⟩
abbrev cX7_signHere : ByteArray := prog_9_method_70_code
def yX7_signHere : MethodName := ⟨RX7, "signHere", "()I"⟩
abbrev cX7_takesPart : ByteArray := prog_9_method_71_code
def yX7_takesPart : MethodName := ⟨RX7, "takesPart", "()Z"⟩
abbrev cX7_takesE : ByteArray := prog_9_method_72_code
def yX7_takesE : MethodName := ⟨RX7, "takesE", "()Z"⟩
abbrev cX7_notsOpen : ByteArray := prog_9_method_73_code
def yX7_notsOpen : MethodName := ⟨RX7, "notsOpen", "()I"⟩
abbrev cX7_text : ByteArray := prog_9_method_74_code
def yX7_text : MethodName := ⟨RX7, "text", "()I"⟩
abbrev cX7_textTold : ByteArray := prog_9_method_75_code
def yX7_textTold : MethodName := ⟨RX7, "textTold", "(II)I"⟩
abbrev cX7_counts : ByteArray := prog_9_method_76_code
def yX7_counts : MethodName := ⟨RX7, "counts", "(I)I"⟩
abbrev cX7_why : ByteArray := prog_9_method_77_code
def yX7_why : MethodName := ⟨RX7, "why", "(I)I"⟩
abbrev cX7_two : ByteArray := prog_9_method_78_code
def yX7_two : MethodName := ⟨RX7, "two", "(III)I"⟩
abbrev cX7_worksOut : ByteArray := prog_9_method_79_code
def yX7_worksOut : MethodName := ⟨RX7, "worksOut", "(I)I"⟩
abbrev cX7_isSheet : ByteArray := prog_9_method_80_code
def yX7_isSheet : MethodName := ⟨RX7, "isSheet", "(I)Z"⟩
abbrev cX7_isSlot : ByteArray := prog_9_method_81_code
def yX7_isSlot : MethodName := ⟨RX7, "isSlot", "(I)Z"⟩
abbrev cX7_sheet : ByteArray := prog_9_method_82_code
def yX7_sheet : MethodName := ⟨RX7, "sheet", "(III)I"⟩
abbrev cX7_mark : ByteArray := prog_9_method_83_code
def yX7_mark : MethodName := ⟨RX7, "mark", "(III)I"⟩
abbrev cX7_pour : ByteArray := prog_9_method_84_code
def yX7_pour : MethodName := ⟨RX7, "pour", "(I)I"⟩
abbrev cX7_reads : ByteArray := prog_9_method_85_code
def yX7_reads : MethodName := ⟨RX7, "reads", "(I)I"⟩
abbrev cX7_copy : ByteArray := prog_9_method_86_code
def yX7_copy : MethodName := ⟨RX7, "copy", "(IIIII)I"⟩
abbrev cX7_lay : ByteArray := prog_9_method_87_code
def yX7_lay : MethodName := ⟨RX7, "lay", "(III)I"⟩
abbrev cX7_ask : ByteArray := prog_9_method_88_code
def yX7_ask : MethodName := ⟨RX7, "ask", "(II)I"⟩
abbrev cX7_item : ByteArray := prog_9_method_89_code
def yX7_item : MethodName := ⟨RX7, "item", "(II)I"⟩
abbrev cX7_rest : ByteArray := prog_9_method_90_code
def yX7_rest : MethodName := ⟨RX7, "rest", "(II)I"⟩
abbrev cX7_tell : ByteArray := prog_9_method_91_code
def yX7_tell : MethodName := ⟨RX7, "tell", "(I)I"⟩
abbrev cX7_check : ByteArray := prog_9_method_92_code
def yX7_check : MethodName := ⟨RX7, "check", "(I)I"⟩
abbrev cX7_keep : ByteArray := prog_9_method_93_code
def yX7_keep : MethodName := ⟨RX7, "keep", "()I"⟩
abbrev cX7_back : ByteArray := prog_9_method_94_code
def yX7_back : MethodName := ⟨RX7, "back", "()I"⟩
abbrev cX7_count : ByteArray := prog_9_method_95_code
def yX7_count : MethodName := ⟨RX7, "count", "(I)I"⟩
def RJ11 : String := "java/lang/Character"
def TJ11 : u_T := fun k => match k with
  | _ => ("", "", "", false)
def tyJ11 : Nat → FieldType := fun k => match k with
  | _ => .int
abbrev cJ11_isValidCodePoint_9a6ad : ByteArray := prog_10_method_11_code
def yJ11_isValidCodePoint_9a6ad : MethodName := ⟨RJ11, "isValidCodePoint", "(I)Z"⟩
abbrev cJ11_highSurrogate_5068e : ByteArray := prog_10_method_28_code
def yJ11_highSurrogate_5068e : MethodName := ⟨RJ11, "highSurrogate", "(I)C"⟩
abbrev cJ11_lowSurrogate_5068e : ByteArray := prog_10_method_29_code
def yJ11_lowSurrogate_5068e : MethodName := ⟨RJ11, "lowSurrogate", "(I)C"⟩
def RJ6 : String := "java/lang/Integer"
def TJ6 : u_T := fun k => match k with
  | _ => ("", "", "", false)
def tyJ6 : Nat → FieldType := fun k => match k with
  | _ => .int
abbrev cJ6_bitCount_0f7a4 : ByteArray := prog_11_method_49_code
def yJ6_bitCount_0f7a4 : MethodName := ⟨RJ6, "bitCount", "(I)I"⟩
def RJ9 : String := "java/lang/Math"
def TJ9 : u_T := fun k => match k with
  | _ => ("", "", "", false)
def tyJ9 : Nat → FieldType := fun k => match k with
  | _ => .int
abbrev cJ9_abs_0f7a4 : ByteArray := prog_12_method_59_code
def yJ9_abs_0f7a4 : MethodName := ⟨RJ9, "abs", "(I)I"⟩
abbrev cJ9_max_7cf53 : ByteArray := prog_12_method_65_code
def yJ9_max_7cf53 : MethodName := ⟨RJ9, "max", "(II)I"⟩
abbrev cJ9_min_7cf53 : ByteArray := prog_12_method_69_code
def yJ9_min_7cf53 : MethodName := ⟨RJ9, "min", "(II)I"⟩
def RJ0 : String := "java/lang/String"
def TJ0 : u_T := fun k => match k with
  | _ => ("", "", "", false)
def tyJ0 : Nat → FieldType := fun k => match k with
  | _ => .int
abbrev cJ0_length_8abf5 : ByteArray := prog_13_method_54_code
def yJ0_length_8abf5 : MethodName := ⟨RJ0, "length", "()I"⟩
abbrev cJ0_charAt_5068e : ByteArray := prog_13_method_56_code
def yJ0_charAt_5068e : MethodName := ⟨RJ0, "charAt", "(I)C"⟩
abbrev cJ0_indexOf_0f7a4 : ByteArray := prog_13_method_79_code
def yJ0_indexOf_0f7a4 : MethodName := ⟨RJ0, "indexOf", "(I)I"⟩
abbrev cJ0_indexOf_7cf53 : ByteArray := prog_13_method_80_code
def yJ0_indexOf_7cf53 : MethodName := ⟨RJ0, "indexOf", "(II)I"⟩
abbrev cJ0_coder_7d493 : ByteArray := prog_13_method_152_code
def yJ0_coder_7d493 : MethodName := ⟨RJ0, "coder", "()B"⟩
abbrev cJ0_isLatin1_aae02 : ByteArray := prog_13_method_154_code
def yJ0_isLatin1_aae02 : MethodName := ⟨RJ0, "isLatin1", "()Z"⟩
abbrev cJ0_checkIndex_df160 : ByteArray := prog_13_method_155_code
def yJ0_checkIndex_df160 : MethodName := ⟨RJ0, "checkIndex", "(II)V"⟩
abbrev cJ0_checkBoundsBeginEnd_23922 : ByteArray := prog_13_method_158_code
def yJ0_checkBoundsBeginEnd_23922 : MethodName := ⟨RJ0, "checkBoundsBeginEnd", "(III)V"⟩
def RJ1 : String := "java/lang/StringLatin1"
def TJ1 : u_T := fun k => match k with
  | _ => ("", "", "", false)
def tyJ1 : Nat → FieldType := fun k => match k with
  | _ => .int
abbrev cJ1_charAt_3b067 : ByteArray := prog_14_method_2_code
def yJ1_charAt_3b067 : MethodName := ⟨RJ1, "charAt", "([BI)C"⟩
abbrev cJ1_canEncode_9a6ad : ByteArray := prog_14_method_4_code
def yJ1_canEncode_9a6ad : MethodName := ⟨RJ1, "canEncode", "(I)Z"⟩
abbrev cJ1_indexOf_4cfef : ByteArray := prog_14_method_22_code
def yJ1_indexOf_4cfef : MethodName := ⟨RJ1, "indexOf", "([BIII)I"⟩
abbrev cJ1_indexOfChar_4cfef : ByteArray := prog_14_method_23_code
def yJ1_indexOfChar_4cfef : MethodName := ⟨RJ1, "indexOfChar", "([BIII)I"⟩
def RJ2 : String := "java/lang/StringUTF16"
def TJ2 : u_T := fun k => match k with
  | _ => ("", "", "", false)
def tyJ2 : Nat → FieldType := fun k => match k with
  | _ => .int
abbrev cJ2_getChar_3b067 : ByteArray := prog_15_method_5_code
def yJ2_getChar_3b067 : MethodName := ⟨RJ2, "getChar", "([BI)C"⟩
abbrev cJ2_length_9d52b : ByteArray := prog_15_method_6_code
def yJ2_length_9d52b : MethodName := ⟨RJ2, "length", "([B)I"⟩
abbrev cJ2_indexOf_4cfef : ByteArray := prog_15_method_40_code
def yJ2_indexOf_4cfef : MethodName := ⟨RJ2, "indexOf", "([BIII)I"⟩
abbrev cJ2_indexOfChar_4cfef : ByteArray := prog_15_method_47_code
def yJ2_indexOfChar_4cfef : MethodName := ⟨RJ2, "indexOfChar", "([BIII)I"⟩
abbrev cJ2_indexOfCharUnsafe_4cfef : ByteArray := prog_15_method_48_code
def yJ2_indexOfCharUnsafe_4cfef : MethodName := ⟨RJ2, "indexOfCharUnsafe", "([BIII)I"⟩
abbrev cJ2_indexOfSupplementary_4cfef : ByteArray := prog_15_method_49_code
def yJ2_indexOfSupplementary_4cfef : MethodName := ⟨RJ2, "indexOfSupplementary", "([BIII)I"⟩
abbrev cJ2_charAt_3b067 : ByteArray := prog_15_method_83_code
def yJ2_charAt_3b067 : MethodName := ⟨RJ2, "charAt", "([BI)C"⟩
abbrev cJ2_checkIndex_2214a : ByteArray := prog_15_method_91_code
def yJ2_checkIndex_2214a : MethodName := ⟨RJ2, "checkIndex", "(I[B)V"⟩
abbrev cJ2_checkBoundsBeginEnd_d044e : ByteArray := prog_15_method_93_code
def yJ2_checkBoundsBeginEnd_d044e : MethodName := ⟨RJ2, "checkBoundsBeginEnd", "(II[B)V"⟩
def RJ10 : String := "java/lang/System"
def TJ10 : u_T := fun k => match k with
  | _ => ("", "", "", false)
def tyJ10 : Nat → FieldType := fun k => match k with
  | _ => .int
def RJ3 : String := "jdk/internal/util/Preconditions"
def TJ3 : u_T := fun k => match k with
  | _ => ("", "", "", false)
def tyJ3 : Nat → FieldType := fun k => match k with
  | _ => .int
abbrev cJ3_checkIndex_8e157 : ByteArray := prog_17_method_11_code
def yJ3_checkIndex_8e157 : MethodName := ⟨RJ3, "checkIndex", "(IILjava/util/function/BiFunction;)I"⟩
abbrev cJ3_checkFromToIndex_8c36e : ByteArray := prog_17_method_12_code
def yJ3_checkFromToIndex_8c36e : MethodName := ⟨RJ3, "checkFromToIndex", "(IIILjava/util/function/BiFunction;)I"⟩
def RL : String := "HearsaySeedsLaw"
abbrev cL_law : ByteArray := code
def yL_law : MethodName := ⟨RL, "law", "([I)Z"⟩
abbrev vwCl : List vw_C := [(RX0, TX0, 16), (RX1, TX1, 3), (RX2, TX2, 11), (RX3, TX3, 3), (RX4, TX4, 4), (RX5, TX5, 4), (RX6, TX6, 11), (RX7, TX7, 33)]
end
section
theorem dX0_init_0 : decode cX0_init 0 = .ok (.aload_n 0, 1) := by decide +kernel
theorem dX0_init_1 : decode cX0_init 1 = .ok (.invokespecial 3, 3) := by decide +kernel
theorem dX0_init_4 : decode cX0_init 4 = .ok (.aload_n 0, 1) := by decide +kernel
theorem dX0_init_5 : decode cX0_init 5 = .ok (.bipush 8, 2) := by decide +kernel
theorem dX0_init_7 : decode cX0_init 7 = .ok (.newarray .int, 2) := by decide +kernel
theorem dX0_init_9 : decode cX0_init 9 = .ok (.putfield 9, 3) := by decide +kernel
theorem dX0_init_12 : decode cX0_init 12 = .ok (.aload_n 0, 1) := by decide +kernel
theorem dX0_init_13 : decode cX0_init 13 = .ok (.bipush 8, 2) := by decide +kernel
theorem dX0_init_15 : decode cX0_init 15 = .ok (.newarray .int, 2) := by decide +kernel
theorem dX0_init_17 : decode cX0_init 17 = .ok (.putfield 15, 3) := by decide +kernel
theorem dX0_init_20 : decode cX0_init 20 = .ok (.aload_n 0, 1) := by decide +kernel
theorem dX0_init_21 : decode cX0_init 21 = .ok (.bipush 8, 2) := by decide +kernel
theorem dX0_init_23 : decode cX0_init 23 = .ok (.newarray .int, 2) := by decide +kernel
theorem dX0_init_25 : decode cX0_init 25 = .ok (.putfield 18, 3) := by decide +kernel
theorem dX0_init_28 : decode cX0_init 28 = .ok (.aload_n 0, 1) := by decide +kernel
theorem dX0_init_29 : decode cX0_init 29 = .ok (.bipush 8, 2) := by decide +kernel
theorem dX0_init_31 : decode cX0_init 31 = .ok (.newarray .int, 2) := by decide +kernel
theorem dX0_init_33 : decode cX0_init 33 = .ok (.putfield 21, 3) := by decide +kernel
theorem dX0_init_36 : decode cX0_init 36 = .ok (.aload_n 0, 1) := by decide +kernel
theorem dX0_init_37 : decode cX0_init 37 = .ok (.bipush 48, 2) := by decide +kernel
theorem dX0_init_39 : decode cX0_init 39 = .ok (.newarray .int, 2) := by decide +kernel
theorem dX0_init_41 : decode cX0_init 41 = .ok (.putfield 24, 3) := by decide +kernel
theorem dX0_init_44 : decode cX0_init 44 = .ok (.aload_n 0, 1) := by decide +kernel
theorem dX0_init_45 : decode cX0_init 45 = .ok (.bipush 6, 2) := by decide +kernel
theorem dX0_init_47 : decode cX0_init 47 = .ok (.newarray .int, 2) := by decide +kernel
theorem dX0_init_49 : decode cX0_init 49 = .ok (.putfield 27, 3) := by decide +kernel
theorem dX0_init_52 : decode cX0_init 52 = .ok (.aload_n 0, 1) := by decide +kernel
theorem dX0_init_53 : decode cX0_init 53 = .ok (.bipush 6, 2) := by decide +kernel
theorem dX0_init_55 : decode cX0_init 55 = .ok (.newarray .int, 2) := by decide +kernel
theorem dX0_init_57 : decode cX0_init 57 = .ok (.putfield 30, 3) := by decide +kernel
theorem dX0_init_60 : decode cX0_init 60 = .ok (.aload_n 0, 1) := by decide +kernel
theorem dX0_init_61 : decode cX0_init 61 = .ok (.iconst 1, 1) := by decide +kernel
theorem dX0_init_62 : decode cX0_init 62 = .ok (.putfield 33, 3) := by decide +kernel
theorem dX0_init_65 : decode cX0_init 65 = .ok (.aload_n 0, 1) := by decide +kernel
theorem dX0_init_66 : decode cX0_init 66 = .ok (.iconst 3, 1) := by decide +kernel
theorem dX0_init_67 : decode cX0_init 67 = .ok (.newarray .int, 2) := by decide +kernel
theorem dX0_init_69 : decode cX0_init 69 = .ok (.dup, 1) := by decide +kernel
theorem dX0_init_70 : decode cX0_init 70 = .ok (.iconst 0, 1) := by decide +kernel
theorem dX0_init_71 : decode cX0_init 71 = .ok (.iconst (-1), 1) := by decide +kernel
theorem dX0_init_72 : decode cX0_init 72 = .ok (.iastore, 1) := by decide +kernel
theorem dX0_init_73 : decode cX0_init 73 = .ok (.dup, 1) := by decide +kernel
theorem dX0_init_74 : decode cX0_init 74 = .ok (.iconst 1, 1) := by decide +kernel
theorem dX0_init_75 : decode cX0_init 75 = .ok (.iconst (-1), 1) := by decide +kernel
theorem dX0_init_76 : decode cX0_init 76 = .ok (.iastore, 1) := by decide +kernel
theorem dX0_init_77 : decode cX0_init 77 = .ok (.dup, 1) := by decide +kernel
theorem dX0_init_78 : decode cX0_init 78 = .ok (.iconst 2, 1) := by decide +kernel
theorem dX0_init_79 : decode cX0_init 79 = .ok (.iconst (-1), 1) := by decide +kernel
theorem dX0_init_80 : decode cX0_init 80 = .ok (.iastore, 1) := by decide +kernel
theorem dX0_init_81 : decode cX0_init 81 = .ok (.putfield 37, 3) := by decide +kernel
theorem dX0_init_84 : decode cX0_init 84 = .ok (.aload_n 0, 1) := by decide +kernel
theorem dX0_init_85 : decode cX0_init 85 = .ok (.aload_n 1, 1) := by decide +kernel
theorem dX0_init_86 : decode cX0_init 86 = .ok (.putfield 40, 3) := by decide +kernel
theorem dX0_init_89 : decode cX0_init 89 = .ok (.return_, 1) := by decide +kernel
theorem dX0_takeOver_0 : decode cX0_takeOver 0 = .ok (.aload_n 0, 1) := by decide +kernel
theorem dX0_takeOver_1 : decode cX0_takeOver 1 = .ok (.aload_n 1, 1) := by decide +kernel
theorem dX0_takeOver_2 : decode cX0_takeOver 2 = .ok (.getfield 44, 3) := by decide +kernel
theorem dX0_takeOver_5 : decode cX0_takeOver 5 = .ok (.putfield 44, 3) := by decide +kernel
theorem dX0_takeOver_8 : decode cX0_takeOver 8 = .ok (.aload_n 1, 1) := by decide +kernel
theorem dX0_takeOver_9 : decode cX0_takeOver 9 = .ok (.getfield 9, 3) := by decide +kernel
theorem dX0_takeOver_12 : decode cX0_takeOver 12 = .ok (.iconst 0, 1) := by decide +kernel
theorem dX0_takeOver_13 : decode cX0_takeOver 13 = .ok (.aload_n 0, 1) := by decide +kernel
theorem dX0_takeOver_14 : decode cX0_takeOver 14 = .ok (.getfield 9, 3) := by decide +kernel
theorem dX0_takeOver_17 : decode cX0_takeOver 17 = .ok (.iconst 0, 1) := by decide +kernel
theorem dX0_takeOver_18 : decode cX0_takeOver 18 = .ok (.bipush 8, 2) := by decide +kernel
theorem dX0_takeOver_20 : decode cX0_takeOver 20 = .ok (.invokestatic 47, 3) := by decide +kernel
theorem dX0_takeOver_23 : decode cX0_takeOver 23 = .ok (.aload_n 1, 1) := by decide +kernel
theorem dX0_takeOver_24 : decode cX0_takeOver 24 = .ok (.getfield 15, 3) := by decide +kernel
theorem dX0_takeOver_27 : decode cX0_takeOver 27 = .ok (.iconst 0, 1) := by decide +kernel
theorem dX0_takeOver_28 : decode cX0_takeOver 28 = .ok (.aload_n 0, 1) := by decide +kernel
theorem dX0_takeOver_29 : decode cX0_takeOver 29 = .ok (.getfield 15, 3) := by decide +kernel
theorem dX0_takeOver_32 : decode cX0_takeOver 32 = .ok (.iconst 0, 1) := by decide +kernel
theorem dX0_takeOver_33 : decode cX0_takeOver 33 = .ok (.bipush 8, 2) := by decide +kernel
theorem dX0_takeOver_35 : decode cX0_takeOver 35 = .ok (.invokestatic 47, 3) := by decide +kernel
theorem dX0_takeOver_38 : decode cX0_takeOver 38 = .ok (.aload_n 1, 1) := by decide +kernel
theorem dX0_takeOver_39 : decode cX0_takeOver 39 = .ok (.getfield 18, 3) := by decide +kernel
theorem dX0_takeOver_42 : decode cX0_takeOver 42 = .ok (.iconst 0, 1) := by decide +kernel
theorem dX0_takeOver_43 : decode cX0_takeOver 43 = .ok (.aload_n 0, 1) := by decide +kernel
theorem dX0_takeOver_44 : decode cX0_takeOver 44 = .ok (.getfield 18, 3) := by decide +kernel
theorem dX0_takeOver_47 : decode cX0_takeOver 47 = .ok (.iconst 0, 1) := by decide +kernel
theorem dX0_takeOver_48 : decode cX0_takeOver 48 = .ok (.bipush 8, 2) := by decide +kernel
theorem dX0_takeOver_50 : decode cX0_takeOver 50 = .ok (.invokestatic 47, 3) := by decide +kernel
theorem dX0_takeOver_53 : decode cX0_takeOver 53 = .ok (.aload_n 1, 1) := by decide +kernel
theorem dX0_takeOver_54 : decode cX0_takeOver 54 = .ok (.getfield 21, 3) := by decide +kernel
theorem dX0_takeOver_57 : decode cX0_takeOver 57 = .ok (.iconst 0, 1) := by decide +kernel
theorem dX0_takeOver_58 : decode cX0_takeOver 58 = .ok (.aload_n 0, 1) := by decide +kernel
theorem dX0_takeOver_59 : decode cX0_takeOver 59 = .ok (.getfield 21, 3) := by decide +kernel
theorem dX0_takeOver_62 : decode cX0_takeOver 62 = .ok (.iconst 0, 1) := by decide +kernel
theorem dX0_takeOver_63 : decode cX0_takeOver 63 = .ok (.bipush 8, 2) := by decide +kernel
theorem dX0_takeOver_65 : decode cX0_takeOver 65 = .ok (.invokestatic 47, 3) := by decide +kernel
theorem dX0_takeOver_68 : decode cX0_takeOver 68 = .ok (.aload_n 1, 1) := by decide +kernel
theorem dX0_takeOver_69 : decode cX0_takeOver 69 = .ok (.getfield 24, 3) := by decide +kernel
theorem dX0_takeOver_72 : decode cX0_takeOver 72 = .ok (.iconst 0, 1) := by decide +kernel
theorem dX0_takeOver_73 : decode cX0_takeOver 73 = .ok (.aload_n 0, 1) := by decide +kernel
theorem dX0_takeOver_74 : decode cX0_takeOver 74 = .ok (.getfield 24, 3) := by decide +kernel
theorem dX0_takeOver_77 : decode cX0_takeOver 77 = .ok (.iconst 0, 1) := by decide +kernel
theorem dX0_takeOver_78 : decode cX0_takeOver 78 = .ok (.bipush 48, 2) := by decide +kernel
theorem dX0_takeOver_80 : decode cX0_takeOver 80 = .ok (.invokestatic 47, 3) := by decide +kernel
theorem dX0_takeOver_83 : decode cX0_takeOver 83 = .ok (.aload_n 1, 1) := by decide +kernel
theorem dX0_takeOver_84 : decode cX0_takeOver 84 = .ok (.getfield 27, 3) := by decide +kernel
theorem dX0_takeOver_87 : decode cX0_takeOver 87 = .ok (.iconst 0, 1) := by decide +kernel
theorem dX0_takeOver_88 : decode cX0_takeOver 88 = .ok (.aload_n 0, 1) := by decide +kernel
theorem dX0_takeOver_89 : decode cX0_takeOver 89 = .ok (.getfield 27, 3) := by decide +kernel
theorem dX0_takeOver_92 : decode cX0_takeOver 92 = .ok (.iconst 0, 1) := by decide +kernel
theorem dX0_takeOver_93 : decode cX0_takeOver 93 = .ok (.bipush 6, 2) := by decide +kernel
theorem dX0_takeOver_95 : decode cX0_takeOver 95 = .ok (.invokestatic 47, 3) := by decide +kernel
theorem dX0_takeOver_98 : decode cX0_takeOver 98 = .ok (.aload_n 1, 1) := by decide +kernel
theorem dX0_takeOver_99 : decode cX0_takeOver 99 = .ok (.getfield 30, 3) := by decide +kernel
theorem dX0_takeOver_102 : decode cX0_takeOver 102 = .ok (.iconst 0, 1) := by decide +kernel
theorem dX0_takeOver_103 : decode cX0_takeOver 103 = .ok (.aload_n 0, 1) := by decide +kernel
theorem dX0_takeOver_104 : decode cX0_takeOver 104 = .ok (.getfield 30, 3) := by decide +kernel
theorem dX0_takeOver_107 : decode cX0_takeOver 107 = .ok (.iconst 0, 1) := by decide +kernel
theorem dX0_takeOver_108 : decode cX0_takeOver 108 = .ok (.bipush 6, 2) := by decide +kernel
theorem dX0_takeOver_110 : decode cX0_takeOver 110 = .ok (.invokestatic 47, 3) := by decide +kernel
theorem dX0_takeOver_113 : decode cX0_takeOver 113 = .ok (.aload_n 0, 1) := by decide +kernel
theorem dX0_takeOver_114 : decode cX0_takeOver 114 = .ok (.aload_n 1, 1) := by decide +kernel
theorem dX0_takeOver_115 : decode cX0_takeOver 115 = .ok (.getfield 53, 3) := by decide +kernel
theorem dX0_takeOver_118 : decode cX0_takeOver 118 = .ok (.putfield 53, 3) := by decide +kernel
theorem dX0_takeOver_121 : decode cX0_takeOver 121 = .ok (.aload_n 0, 1) := by decide +kernel
theorem dX0_takeOver_122 : decode cX0_takeOver 122 = .ok (.aload_n 1, 1) := by decide +kernel
theorem dX0_takeOver_123 : decode cX0_takeOver 123 = .ok (.getfield 56, 3) := by decide +kernel
theorem dX0_takeOver_126 : decode cX0_takeOver 126 = .ok (.putfield 56, 3) := by decide +kernel
theorem dX0_takeOver_129 : decode cX0_takeOver 129 = .ok (.aload_n 0, 1) := by decide +kernel
theorem dX0_takeOver_130 : decode cX0_takeOver 130 = .ok (.aload_n 1, 1) := by decide +kernel
theorem dX0_takeOver_131 : decode cX0_takeOver 131 = .ok (.getfield 59, 3) := by decide +kernel
theorem dX0_takeOver_134 : decode cX0_takeOver 134 = .ok (.putfield 59, 3) := by decide +kernel
theorem dX0_takeOver_137 : decode cX0_takeOver 137 = .ok (.aload_n 0, 1) := by decide +kernel
theorem dX0_takeOver_138 : decode cX0_takeOver 138 = .ok (.aload_n 1, 1) := by decide +kernel
theorem dX0_takeOver_139 : decode cX0_takeOver 139 = .ok (.getfield 62, 3) := by decide +kernel
theorem dX0_takeOver_142 : decode cX0_takeOver 142 = .ok (.putfield 62, 3) := by decide +kernel
theorem dX0_takeOver_145 : decode cX0_takeOver 145 = .ok (.aload_n 0, 1) := by decide +kernel
theorem dX0_takeOver_146 : decode cX0_takeOver 146 = .ok (.aload_n 1, 1) := by decide +kernel
theorem dX0_takeOver_147 : decode cX0_takeOver 147 = .ok (.getfield 33, 3) := by decide +kernel
theorem dX0_takeOver_150 : decode cX0_takeOver 150 = .ok (.putfield 33, 3) := by decide +kernel
theorem dX0_takeOver_153 : decode cX0_takeOver 153 = .ok (.aload_n 0, 1) := by decide +kernel
theorem dX0_takeOver_154 : decode cX0_takeOver 154 = .ok (.aload_n 1, 1) := by decide +kernel
theorem dX0_takeOver_155 : decode cX0_takeOver 155 = .ok (.getfield 65, 3) := by decide +kernel
theorem dX0_takeOver_158 : decode cX0_takeOver 158 = .ok (.putfield 65, 3) := by decide +kernel
theorem dX0_takeOver_161 : decode cX0_takeOver 161 = .ok (.aload_n 1, 1) := by decide +kernel
theorem dX0_takeOver_162 : decode cX0_takeOver 162 = .ok (.getfield 37, 3) := by decide +kernel
theorem dX0_takeOver_165 : decode cX0_takeOver 165 = .ok (.iconst 0, 1) := by decide +kernel
theorem dX0_takeOver_166 : decode cX0_takeOver 166 = .ok (.aload_n 0, 1) := by decide +kernel
theorem dX0_takeOver_167 : decode cX0_takeOver 167 = .ok (.getfield 37, 3) := by decide +kernel
theorem dX0_takeOver_170 : decode cX0_takeOver 170 = .ok (.iconst 0, 1) := by decide +kernel
theorem dX0_takeOver_171 : decode cX0_takeOver 171 = .ok (.iconst 3, 1) := by decide +kernel
theorem dX0_takeOver_172 : decode cX0_takeOver 172 = .ok (.invokestatic 47, 3) := by decide +kernel
theorem dX0_takeOver_175 : decode cX0_takeOver 175 = .ok (.return_, 1) := by decide +kernel
theorem dX0_settle_0 : decode cX0_settle 0 = .ok (.aload_n 0, 1) := by decide +kernel
theorem dX0_settle_1 : decode cX0_settle 1 = .ok (.getfield 9, 3) := by decide +kernel
theorem dX0_settle_4 : decode cX0_settle 4 = .ok (.aload_n 0, 1) := by decide +kernel
theorem dX0_settle_5 : decode cX0_settle 5 = .ok (.getfield 44, 3) := by decide +kernel
theorem dX0_settle_8 : decode cX0_settle 8 = .ok (.iload_n 1, 1) := by decide +kernel
theorem dX0_settle_9 : decode cX0_settle 9 = .ok (.iastore, 1) := by decide +kernel
theorem dX0_settle_10 : decode cX0_settle 10 = .ok (.aload_n 0, 1) := by decide +kernel
theorem dX0_settle_11 : decode cX0_settle 11 = .ok (.getfield 15, 3) := by decide +kernel
theorem dX0_settle_14 : decode cX0_settle 14 = .ok (.aload_n 0, 1) := by decide +kernel
theorem dX0_settle_15 : decode cX0_settle 15 = .ok (.getfield 44, 3) := by decide +kernel
theorem dX0_settle_18 : decode cX0_settle 18 = .ok (.iload_n 2, 1) := by decide +kernel
theorem dX0_settle_19 : decode cX0_settle 19 = .ok (.iastore, 1) := by decide +kernel
theorem dX0_settle_20 : decode cX0_settle 20 = .ok (.aload_n 0, 1) := by decide +kernel
theorem dX0_settle_21 : decode cX0_settle 21 = .ok (.getfield 18, 3) := by decide +kernel
theorem dX0_settle_24 : decode cX0_settle 24 = .ok (.aload_n 0, 1) := by decide +kernel
theorem dX0_settle_25 : decode cX0_settle 25 = .ok (.getfield 44, 3) := by decide +kernel
theorem dX0_settle_28 : decode cX0_settle 28 = .ok (.iload_n 3, 1) := by decide +kernel
theorem dX0_settle_29 : decode cX0_settle 29 = .ok (.iastore, 1) := by decide +kernel
theorem dX0_settle_30 : decode cX0_settle 30 = .ok (.aload_n 0, 1) := by decide +kernel
theorem dX0_settle_31 : decode cX0_settle 31 = .ok (.getfield 21, 3) := by decide +kernel
theorem dX0_settle_34 : decode cX0_settle 34 = .ok (.aload_n 0, 1) := by decide +kernel
theorem dX0_settle_35 : decode cX0_settle 35 = .ok (.getfield 44, 3) := by decide +kernel
theorem dX0_settle_38 : decode cX0_settle 38 = .ok (.iconst 0, 1) := by decide +kernel
theorem dX0_settle_39 : decode cX0_settle 39 = .ok (.iastore, 1) := by decide +kernel
theorem dX0_settle_40 : decode cX0_settle 40 = .ok (.iconst 0, 1) := by decide +kernel
theorem dX0_settle_41 : decode cX0_settle 41 = .ok (.istore 4, 2) := by decide +kernel
theorem dX0_settle_43 : decode cX0_settle 43 = .ok (.iload 4, 2) := by decide +kernel
theorem dX0_settle_45 : decode cX0_settle 45 = .ok (.bipush 6, 2) := by decide +kernel
theorem dX0_settle_47 : decode cX0_settle 47 = .ok (.if_icmp .ge 20, 3) := by decide +kernel
theorem dX0_settle_50 : decode cX0_settle 50 = .ok (.aload_n 0, 1) := by decide +kernel
theorem dX0_settle_51 : decode cX0_settle 51 = .ok (.aload_n 0, 1) := by decide +kernel
theorem dX0_settle_52 : decode cX0_settle 52 = .ok (.getfield 44, 3) := by decide +kernel
theorem dX0_settle_55 : decode cX0_settle 55 = .ok (.iload 4, 2) := by decide +kernel
theorem dX0_settle_57 : decode cX0_settle 57 = .ok (.iconst 0, 1) := by decide +kernel
theorem dX0_settle_58 : decode cX0_settle 58 = .ok (.invokevirtual 68, 3) := by decide +kernel
theorem dX0_settle_61 : decode cX0_settle 61 = .ok (.iinc 4 1, 3) := by decide +kernel
theorem dX0_settle_64 : decode cX0_settle 64 = .ok (.goto (-21), 3) := by decide +kernel
theorem dX0_settle_67 : decode cX0_settle 67 = .ok (.aload_n 0, 1) := by decide +kernel
theorem dX0_settle_68 : decode cX0_settle 68 = .ok (.dup, 1) := by decide +kernel
theorem dX0_settle_69 : decode cX0_settle 69 = .ok (.getfield 44, 3) := by decide +kernel
theorem dX0_settle_72 : decode cX0_settle 72 = .ok (.iconst 1, 1) := by decide +kernel
theorem dX0_settle_73 : decode cX0_settle 73 = .ok (.iadd, 1) := by decide +kernel
theorem dX0_settle_74 : decode cX0_settle 74 = .ok (.putfield 44, 3) := by decide +kernel
theorem dX0_settle_77 : decode cX0_settle 77 = .ok (.return_, 1) := by decide +kernel
theorem dX0_settleByLot_0 : decode cX0_settleByLot 0 = .ok (.aload_n 0, 1) := by decide +kernel
theorem dX0_settleByLot_1 : decode cX0_settleByLot 1 = .ok (.invokevirtual 72, 3) := by decide +kernel
theorem dX0_settleByLot_4 : decode cX0_settleByLot 4 = .ok (.bipush 6, 2) := by decide +kernel
theorem dX0_settleByLot_6 : decode cX0_settleByLot 6 = .ok (.irem, 1) := by decide +kernel
theorem dX0_settleByLot_7 : decode cX0_settleByLot 7 = .ok (.istore_n 1, 1) := by decide +kernel
theorem dX0_settleByLot_8 : decode cX0_settleByLot 8 = .ok (.aload_n 0, 1) := by decide +kernel
theorem dX0_settleByLot_9 : decode cX0_settleByLot 9 = .ok (.invokevirtual 72, 3) := by decide +kernel
theorem dX0_settleByLot_12 : decode cX0_settleByLot 12 = .ok (.bipush 8, 2) := by decide +kernel
theorem dX0_settleByLot_14 : decode cX0_settleByLot 14 = .ok (.irem, 1) := by decide +kernel
theorem dX0_settleByLot_15 : decode cX0_settleByLot 15 = .ok (.istore_n 2, 1) := by decide +kernel
theorem dX0_settleByLot_16 : decode cX0_settleByLot 16 = .ok (.aload_n 0, 1) := by decide +kernel
theorem dX0_settleByLot_17 : decode cX0_settleByLot 17 = .ok (.invokevirtual 72, 3) := by decide +kernel
theorem dX0_settleByLot_20 : decode cX0_settleByLot 20 = .ok (.bipush 10, 2) := by decide +kernel
theorem dX0_settleByLot_22 : decode cX0_settleByLot 22 = .ok (.irem, 1) := by decide +kernel
theorem dX0_settleByLot_23 : decode cX0_settleByLot 23 = .ok (.istore_n 3, 1) := by decide +kernel
theorem dX0_settleByLot_24 : decode cX0_settleByLot 24 = .ok (.aload_n 0, 1) := by decide +kernel
theorem dX0_settleByLot_25 : decode cX0_settleByLot 25 = .ok (.iload_n 1, 1) := by decide +kernel
theorem dX0_settleByLot_26 : decode cX0_settleByLot 26 = .ok (.iload_n 2, 1) := by decide +kernel
theorem dX0_settleByLot_27 : decode cX0_settleByLot 27 = .ok (.iload_n 3, 1) := by decide +kernel
theorem dX0_settleByLot_28 : decode cX0_settleByLot 28 = .ok (.invokevirtual 76, 3) := by decide +kernel
theorem dX0_settleByLot_31 : decode cX0_settleByLot 31 = .ok (.return_, 1) := by decide +kernel
theorem dX0_draw_0 : decode cX0_draw 0 = .ok (.aload_n 0, 1) := by decide +kernel
theorem dX0_draw_1 : decode cX0_draw 1 = .ok (.aload_n 0, 1) := by decide +kernel
theorem dX0_draw_2 : decode cX0_draw 2 = .ok (.getfield 33, 3) := by decide +kernel
theorem dX0_draw_5 : decode cX0_draw 5 = .ok (.ldc 79, 2) := by decide +kernel
theorem dX0_draw_7 : decode cX0_draw 7 = .ok (.imul, 1) := by decide +kernel
theorem dX0_draw_8 : decode cX0_draw 8 = .ok (.sipush 12345, 3) := by decide +kernel
theorem dX0_draw_11 : decode cX0_draw 11 = .ok (.iadd, 1) := by decide +kernel
theorem dX0_draw_12 : decode cX0_draw 12 = .ok (.putfield 33, 3) := by decide +kernel
theorem dX0_draw_15 : decode cX0_draw 15 = .ok (.aload_n 0, 1) := by decide +kernel
theorem dX0_draw_16 : decode cX0_draw 16 = .ok (.getfield 33, 3) := by decide +kernel
theorem dX0_draw_19 : decode cX0_draw 19 = .ok (.bipush 8, 2) := by decide +kernel
theorem dX0_draw_21 : decode cX0_draw 21 = .ok (.iushr, 1) := by decide +kernel
theorem dX0_draw_22 : decode cX0_draw 22 = .ok (.ireturn, 1) := by decide +kernel
theorem dX0_thoughtOf_0 : decode cX0_thoughtOf 0 = .ok (.aload_n 0, 1) := by decide +kernel
theorem dX0_thoughtOf_1 : decode cX0_thoughtOf 1 = .ok (.getfield 24, 3) := by decide +kernel
theorem dX0_thoughtOf_4 : decode cX0_thoughtOf 4 = .ok (.iload_n 1, 1) := by decide +kernel
theorem dX0_thoughtOf_5 : decode cX0_thoughtOf 5 = .ok (.bipush 6, 2) := by decide +kernel
theorem dX0_thoughtOf_7 : decode cX0_thoughtOf 7 = .ok (.imul, 1) := by decide +kernel
theorem dX0_thoughtOf_8 : decode cX0_thoughtOf 8 = .ok (.iload_n 2, 1) := by decide +kernel
theorem dX0_thoughtOf_9 : decode cX0_thoughtOf 9 = .ok (.iadd, 1) := by decide +kernel
theorem dX0_thoughtOf_10 : decode cX0_thoughtOf 10 = .ok (.iaload, 1) := by decide +kernel
theorem dX0_thoughtOf_11 : decode cX0_thoughtOf 11 = .ok (.ireturn, 1) := by decide +kernel
theorem dX0_think_0 : decode cX0_think 0 = .ok (.aload_n 0, 1) := by decide +kernel
theorem dX0_think_1 : decode cX0_think 1 = .ok (.getfield 24, 3) := by decide +kernel
theorem dX0_think_4 : decode cX0_think 4 = .ok (.iload_n 1, 1) := by decide +kernel
theorem dX0_think_5 : decode cX0_think 5 = .ok (.bipush 6, 2) := by decide +kernel
theorem dX0_think_7 : decode cX0_think 7 = .ok (.imul, 1) := by decide +kernel
theorem dX0_think_8 : decode cX0_think 8 = .ok (.iload_n 2, 1) := by decide +kernel
theorem dX0_think_9 : decode cX0_think 9 = .ok (.iadd, 1) := by decide +kernel
theorem dX0_think_10 : decode cX0_think 10 = .ok (.iload_n 3, 1) := by decide +kernel
theorem dX0_think_11 : decode cX0_think 11 = .ok (.iastore, 1) := by decide +kernel
theorem dX0_think_12 : decode cX0_think 12 = .ok (.return_, 1) := by decide +kernel
theorem dX0_fieldsThoughtOf_0 : decode cX0_fieldsThoughtOf 0 = .ok (.iconst 0, 1) := by decide +kernel
theorem dX0_fieldsThoughtOf_1 : decode cX0_fieldsThoughtOf 1 = .ok (.istore_n 2, 1) := by decide +kernel
theorem dX0_fieldsThoughtOf_2 : decode cX0_fieldsThoughtOf 2 = .ok (.iconst 0, 1) := by decide +kernel
theorem dX0_fieldsThoughtOf_3 : decode cX0_fieldsThoughtOf 3 = .ok (.istore_n 3, 1) := by decide +kernel
theorem dX0_fieldsThoughtOf_4 : decode cX0_fieldsThoughtOf 4 = .ok (.iload_n 3, 1) := by decide +kernel
theorem dX0_fieldsThoughtOf_5 : decode cX0_fieldsThoughtOf 5 = .ok (.bipush 6, 2) := by decide +kernel
theorem dX0_fieldsThoughtOf_7 : decode cX0_fieldsThoughtOf 7 = .ok (.if_icmp .ge 24, 3) := by decide +kernel
theorem dX0_fieldsThoughtOf_10 : decode cX0_fieldsThoughtOf 10 = .ok (.aload_n 0, 1) := by decide +kernel
theorem dX0_fieldsThoughtOf_11 : decode cX0_fieldsThoughtOf 11 = .ok (.iload_n 1, 1) := by decide +kernel
theorem dX0_fieldsThoughtOf_12 : decode cX0_fieldsThoughtOf 12 = .ok (.iload_n 3, 1) := by decide +kernel
theorem dX0_fieldsThoughtOf_13 : decode cX0_fieldsThoughtOf 13 = .ok (.invokevirtual 80, 3) := by decide +kernel
theorem dX0_fieldsThoughtOf_16 : decode cX0_fieldsThoughtOf 16 = .ok (.ifCond .eq 9, 3) := by decide +kernel
theorem dX0_fieldsThoughtOf_19 : decode cX0_fieldsThoughtOf 19 = .ok (.iload_n 2, 1) := by decide +kernel
theorem dX0_fieldsThoughtOf_20 : decode cX0_fieldsThoughtOf 20 = .ok (.iconst 1, 1) := by decide +kernel
theorem dX0_fieldsThoughtOf_21 : decode cX0_fieldsThoughtOf 21 = .ok (.iload_n 3, 1) := by decide +kernel
theorem dX0_fieldsThoughtOf_22 : decode cX0_fieldsThoughtOf 22 = .ok (.ishl, 1) := by decide +kernel
theorem dX0_fieldsThoughtOf_23 : decode cX0_fieldsThoughtOf 23 = .ok (.ior, 1) := by decide +kernel
theorem dX0_fieldsThoughtOf_24 : decode cX0_fieldsThoughtOf 24 = .ok (.istore_n 2, 1) := by decide +kernel
theorem dX0_fieldsThoughtOf_25 : decode cX0_fieldsThoughtOf 25 = .ok (.iinc 3 1, 3) := by decide +kernel
theorem dX0_fieldsThoughtOf_28 : decode cX0_fieldsThoughtOf 28 = .ok (.goto (-24), 3) := by decide +kernel
theorem dX0_fieldsThoughtOf_31 : decode cX0_fieldsThoughtOf 31 = .ok (.iload_n 2, 1) := by decide +kernel
theorem dX0_fieldsThoughtOf_32 : decode cX0_fieldsThoughtOf 32 = .ok (.ireturn, 1) := by decide +kernel
theorem dX0_hears_0 : decode cX0_hears 0 = .ok (.aload_n 0, 1) := by decide +kernel
theorem dX0_hears_1 : decode cX0_hears 1 = .ok (.getfield 15, 3) := by decide +kernel
theorem dX0_hears_4 : decode cX0_hears 4 = .ok (.iload_n 1, 1) := by decide +kernel
theorem dX0_hears_5 : decode cX0_hears 5 = .ok (.iaload, 1) := by decide +kernel
theorem dX0_hears_6 : decode cX0_hears 6 = .ok (.aload_n 0, 1) := by decide +kernel
theorem dX0_hears_7 : decode cX0_hears 7 = .ok (.getfield 15, 3) := by decide +kernel
theorem dX0_hears_10 : decode cX0_hears 10 = .ok (.iload_n 2, 1) := by decide +kernel
theorem dX0_hears_11 : decode cX0_hears 11 = .ok (.iaload, 1) := by decide +kernel
theorem dX0_hears_12 : decode cX0_hears 12 = .ok (.isub, 1) := by decide +kernel
theorem dX0_hears_13 : decode cX0_hears 13 = .ok (.invokestatic 84, 3) := by decide +kernel
theorem dX0_hears_16 : decode cX0_hears 16 = .ok (.istore_n 3, 1) := by decide +kernel
theorem dX0_hears_17 : decode cX0_hears 17 = .ok (.iload_n 1, 1) := by decide +kernel
theorem dX0_hears_18 : decode cX0_hears 18 = .ok (.iload_n 2, 1) := by decide +kernel
theorem dX0_hears_19 : decode cX0_hears 19 = .ok (.if_icmp .eq 18, 3) := by decide +kernel
theorem dX0_hears_22 : decode cX0_hears 22 = .ok (.iload_n 3, 1) := by decide +kernel
theorem dX0_hears_23 : decode cX0_hears 23 = .ok (.iconst 1, 1) := by decide +kernel
theorem dX0_hears_24 : decode cX0_hears 24 = .ok (.if_icmp .le 9, 3) := by decide +kernel
theorem dX0_hears_27 : decode cX0_hears 27 = .ok (.iload_n 3, 1) := by decide +kernel
theorem dX0_hears_28 : decode cX0_hears 28 = .ok (.bipush 7, 2) := by decide +kernel
theorem dX0_hears_30 : decode cX0_hears 30 = .ok (.if_icmp .ne 7, 3) := by decide +kernel
theorem dX0_hears_33 : decode cX0_hears 33 = .ok (.iconst 1, 1) := by decide +kernel
theorem dX0_hears_34 : decode cX0_hears 34 = .ok (.goto 4, 3) := by decide +kernel
theorem dX0_hears_37 : decode cX0_hears 37 = .ok (.iconst 0, 1) := by decide +kernel
theorem dX0_hears_38 : decode cX0_hears 38 = .ok (.ireturn, 1) := by decide +kernel
theorem dX0_hearersOf_0 : decode cX0_hearersOf 0 = .ok (.iconst 0, 1) := by decide +kernel
theorem dX0_hearersOf_1 : decode cX0_hearersOf 1 = .ok (.istore_n 2, 1) := by decide +kernel
theorem dX0_hearersOf_2 : decode cX0_hearersOf 2 = .ok (.iconst 0, 1) := by decide +kernel
theorem dX0_hearersOf_3 : decode cX0_hearersOf 3 = .ok (.istore_n 3, 1) := by decide +kernel
theorem dX0_hearersOf_4 : decode cX0_hearersOf 4 = .ok (.iload_n 3, 1) := by decide +kernel
theorem dX0_hearersOf_5 : decode cX0_hearersOf 5 = .ok (.aload_n 0, 1) := by decide +kernel
theorem dX0_hearersOf_6 : decode cX0_hearersOf 6 = .ok (.getfield 44, 3) := by decide +kernel
theorem dX0_hearersOf_9 : decode cX0_hearersOf 9 = .ok (.if_icmp .ge 24, 3) := by decide +kernel
theorem dX0_hearersOf_12 : decode cX0_hearersOf 12 = .ok (.aload_n 0, 1) := by decide +kernel
theorem dX0_hearersOf_13 : decode cX0_hearersOf 13 = .ok (.iload_n 3, 1) := by decide +kernel
theorem dX0_hearersOf_14 : decode cX0_hearersOf 14 = .ok (.iload_n 1, 1) := by decide +kernel
theorem dX0_hearersOf_15 : decode cX0_hearersOf 15 = .ok (.invokevirtual 90, 3) := by decide +kernel
theorem dX0_hearersOf_18 : decode cX0_hearersOf 18 = .ok (.ifCond .eq 9, 3) := by decide +kernel
theorem dX0_hearersOf_21 : decode cX0_hearersOf 21 = .ok (.iload_n 2, 1) := by decide +kernel
theorem dX0_hearersOf_22 : decode cX0_hearersOf 22 = .ok (.iconst 1, 1) := by decide +kernel
theorem dX0_hearersOf_23 : decode cX0_hearersOf 23 = .ok (.iload_n 3, 1) := by decide +kernel
theorem dX0_hearersOf_24 : decode cX0_hearersOf 24 = .ok (.ishl, 1) := by decide +kernel
theorem dX0_hearersOf_25 : decode cX0_hearersOf 25 = .ok (.ior, 1) := by decide +kernel
theorem dX0_hearersOf_26 : decode cX0_hearersOf 26 = .ok (.istore_n 2, 1) := by decide +kernel
theorem dX0_hearersOf_27 : decode cX0_hearersOf 27 = .ok (.iinc 3 1, 3) := by decide +kernel
theorem dX0_hearersOf_30 : decode cX0_hearersOf 30 = .ok (.goto (-26), 3) := by decide +kernel
theorem dX0_hearersOf_33 : decode cX0_hearersOf 33 = .ok (.iload_n 2, 1) := by decide +kernel
theorem dX0_hearersOf_34 : decode cX0_hearersOf 34 = .ok (.ireturn, 1) := by decide +kernel
theorem dX0_believersOf_0 : decode cX0_believersOf 0 = .ok (.iconst 0, 1) := by decide +kernel
theorem dX0_believersOf_1 : decode cX0_believersOf 1 = .ok (.istore_n 3, 1) := by decide +kernel
theorem dX0_believersOf_2 : decode cX0_believersOf 2 = .ok (.iconst 0, 1) := by decide +kernel
theorem dX0_believersOf_3 : decode cX0_believersOf 3 = .ok (.istore 4, 2) := by decide +kernel
theorem dX0_believersOf_5 : decode cX0_believersOf 5 = .ok (.iload 4, 2) := by decide +kernel
theorem dX0_believersOf_7 : decode cX0_believersOf 7 = .ok (.aload_n 0, 1) := by decide +kernel
theorem dX0_believersOf_8 : decode cX0_believersOf 8 = .ok (.getfield 44, 3) := by decide +kernel
theorem dX0_believersOf_11 : decode cX0_believersOf 11 = .ok (.if_icmp .ge 31, 3) := by decide +kernel
theorem dX0_believersOf_14 : decode cX0_believersOf 14 = .ok (.iload_n 2, 1) := by decide +kernel
theorem dX0_believersOf_15 : decode cX0_believersOf 15 = .ok (.ifCond .eq 21, 3) := by decide +kernel
theorem dX0_believersOf_18 : decode cX0_believersOf 18 = .ok (.aload_n 0, 1) := by decide +kernel
theorem dX0_believersOf_19 : decode cX0_believersOf 19 = .ok (.iload 4, 2) := by decide +kernel
theorem dX0_believersOf_21 : decode cX0_believersOf 21 = .ok (.iload_n 1, 1) := by decide +kernel
theorem dX0_believersOf_22 : decode cX0_believersOf 22 = .ok (.invokevirtual 80, 3) := by decide +kernel
theorem dX0_believersOf_25 : decode cX0_believersOf 25 = .ok (.iload_n 2, 1) := by decide +kernel
theorem dX0_believersOf_26 : decode cX0_believersOf 26 = .ok (.if_icmp .ne 10, 3) := by decide +kernel
theorem dX0_believersOf_29 : decode cX0_believersOf 29 = .ok (.iload_n 3, 1) := by decide +kernel
theorem dX0_believersOf_30 : decode cX0_believersOf 30 = .ok (.iconst 1, 1) := by decide +kernel
theorem dX0_believersOf_31 : decode cX0_believersOf 31 = .ok (.iload 4, 2) := by decide +kernel
theorem dX0_believersOf_33 : decode cX0_believersOf 33 = .ok (.ishl, 1) := by decide +kernel
theorem dX0_believersOf_34 : decode cX0_believersOf 34 = .ok (.ior, 1) := by decide +kernel
theorem dX0_believersOf_35 : decode cX0_believersOf 35 = .ok (.istore_n 3, 1) := by decide +kernel
theorem dX0_believersOf_36 : decode cX0_believersOf 36 = .ok (.iinc 4 1, 3) := by decide +kernel
theorem dX0_believersOf_39 : decode cX0_believersOf 39 = .ok (.goto (-34), 3) := by decide +kernel
theorem dX0_believersOf_42 : decode cX0_believersOf 42 = .ok (.iload_n 3, 1) := by decide +kernel
theorem dX0_believersOf_43 : decode cX0_believersOf 43 = .ok (.ireturn, 1) := by decide +kernel
theorem dX0_votesFor_0 : decode cX0_votesFor 0 = .ok (.iconst 0, 1) := by decide +kernel
theorem dX0_votesFor_1 : decode cX0_votesFor 1 = .ok (.istore_n 3, 1) := by decide +kernel
theorem dX0_votesFor_2 : decode cX0_votesFor 2 = .ok (.iconst 0, 1) := by decide +kernel
theorem dX0_votesFor_3 : decode cX0_votesFor 3 = .ok (.istore 4, 2) := by decide +kernel
theorem dX0_votesFor_5 : decode cX0_votesFor 5 = .ok (.iload 4, 2) := by decide +kernel
theorem dX0_votesFor_7 : decode cX0_votesFor 7 = .ok (.aload_n 0, 1) := by decide +kernel
theorem dX0_votesFor_8 : decode cX0_votesFor 8 = .ok (.getfield 44, 3) := by decide +kernel
theorem dX0_votesFor_11 : decode cX0_votesFor 11 = .ok (.if_icmp .ge 38, 3) := by decide +kernel
theorem dX0_votesFor_14 : decode cX0_votesFor 14 = .ok (.iload_n 2, 1) := by decide +kernel
theorem dX0_votesFor_15 : decode cX0_votesFor 15 = .ok (.ifCond .eq 28, 3) := by decide +kernel
theorem dX0_votesFor_18 : decode cX0_votesFor 18 = .ok (.aload_n 0, 1) := by decide +kernel
theorem dX0_votesFor_19 : decode cX0_votesFor 19 = .ok (.iload 4, 2) := by decide +kernel
theorem dX0_votesFor_21 : decode cX0_votesFor 21 = .ok (.iload_n 1, 1) := by decide +kernel
theorem dX0_votesFor_22 : decode cX0_votesFor 22 = .ok (.invokevirtual 80, 3) := by decide +kernel
theorem dX0_votesFor_25 : decode cX0_votesFor 25 = .ok (.iload_n 2, 1) := by decide +kernel
theorem dX0_votesFor_26 : decode cX0_votesFor 26 = .ok (.if_icmp .ne 17, 3) := by decide +kernel
theorem dX0_votesFor_29 : decode cX0_votesFor 29 = .ok (.iload_n 3, 1) := by decide +kernel
theorem dX0_votesFor_30 : decode cX0_votesFor 30 = .ok (.getstatic 94, 3) := by decide +kernel
theorem dX0_votesFor_33 : decode cX0_votesFor 33 = .ok (.aload_n 0, 1) := by decide +kernel
theorem dX0_votesFor_34 : decode cX0_votesFor 34 = .ok (.getfield 9, 3) := by decide +kernel
theorem dX0_votesFor_37 : decode cX0_votesFor 37 = .ok (.iload 4, 2) := by decide +kernel
theorem dX0_votesFor_39 : decode cX0_votesFor 39 = .ok (.iaload, 1) := by decide +kernel
theorem dX0_votesFor_40 : decode cX0_votesFor 40 = .ok (.iaload, 1) := by decide +kernel
theorem dX0_votesFor_41 : decode cX0_votesFor 41 = .ok (.iadd, 1) := by decide +kernel
theorem dX0_votesFor_42 : decode cX0_votesFor 42 = .ok (.istore_n 3, 1) := by decide +kernel
theorem dX0_votesFor_43 : decode cX0_votesFor 43 = .ok (.iinc 4 1, 3) := by decide +kernel
theorem dX0_votesFor_46 : decode cX0_votesFor 46 = .ok (.goto (-41), 3) := by decide +kernel
theorem dX0_votesFor_49 : decode cX0_votesFor 49 = .ok (.iload_n 3, 1) := by decide +kernel
theorem dX0_votesFor_50 : decode cX0_votesFor 50 = .ok (.ireturn, 1) := by decide +kernel
theorem dX0_firstCrop_0 : decode cX0_firstCrop 0 = .ok (.iconst 0, 1) := by decide +kernel
theorem dX0_firstCrop_1 : decode cX0_firstCrop 1 = .ok (.istore_n 2, 1) := by decide +kernel
theorem dX0_firstCrop_2 : decode cX0_firstCrop 2 = .ok (.iconst 0, 1) := by decide +kernel
theorem dX0_firstCrop_3 : decode cX0_firstCrop 3 = .ok (.istore_n 3, 1) := by decide +kernel
theorem dX0_firstCrop_4 : decode cX0_firstCrop 4 = .ok (.iconst 1, 1) := by decide +kernel
theorem dX0_firstCrop_5 : decode cX0_firstCrop 5 = .ok (.istore 4, 2) := by decide +kernel
theorem dX0_firstCrop_7 : decode cX0_firstCrop 7 = .ok (.iload 4, 2) := by decide +kernel
theorem dX0_firstCrop_9 : decode cX0_firstCrop 9 = .ok (.bipush 9, 2) := by decide +kernel
theorem dX0_firstCrop_11 : decode cX0_firstCrop 11 = .ok (.if_icmp .gt 30, 3) := by decide +kernel
theorem dX0_firstCrop_14 : decode cX0_firstCrop 14 = .ok (.aload_n 0, 1) := by decide +kernel
theorem dX0_firstCrop_15 : decode cX0_firstCrop 15 = .ok (.iload_n 1, 1) := by decide +kernel
theorem dX0_firstCrop_16 : decode cX0_firstCrop 16 = .ok (.iload 4, 2) := by decide +kernel
theorem dX0_firstCrop_18 : decode cX0_firstCrop 18 = .ok (.invokevirtual 97, 3) := by decide +kernel
theorem dX0_firstCrop_21 : decode cX0_firstCrop 21 = .ok (.istore 5, 2) := by decide +kernel
theorem dX0_firstCrop_23 : decode cX0_firstCrop 23 = .ok (.iload 5, 2) := by decide +kernel
theorem dX0_firstCrop_25 : decode cX0_firstCrop 25 = .ok (.iload_n 3, 1) := by decide +kernel
theorem dX0_firstCrop_26 : decode cX0_firstCrop 26 = .ok (.if_icmp .le 9, 3) := by decide +kernel
theorem dX0_firstCrop_29 : decode cX0_firstCrop 29 = .ok (.iload 4, 2) := by decide +kernel
theorem dX0_firstCrop_31 : decode cX0_firstCrop 31 = .ok (.istore_n 2, 1) := by decide +kernel
theorem dX0_firstCrop_32 : decode cX0_firstCrop 32 = .ok (.iload 5, 2) := by decide +kernel
theorem dX0_firstCrop_34 : decode cX0_firstCrop 34 = .ok (.istore_n 3, 1) := by decide +kernel
theorem dX0_firstCrop_35 : decode cX0_firstCrop 35 = .ok (.iinc 4 1, 3) := by decide +kernel
theorem dX0_firstCrop_38 : decode cX0_firstCrop 38 = .ok (.goto (-31), 3) := by decide +kernel
theorem dX0_firstCrop_41 : decode cX0_firstCrop 41 = .ok (.iload_n 2, 1) := by decide +kernel
theorem dX0_firstCrop_42 : decode cX0_firstCrop 42 = .ok (.ireturn, 1) := by decide +kernel
theorem dX0_agreed_0 : decode cX0_agreed 0 = .ok (.iconst 0, 1) := by decide +kernel
theorem dX0_agreed_1 : decode cX0_agreed 1 = .ok (.istore_n 1, 1) := by decide +kernel
theorem dX0_agreed_2 : decode cX0_agreed 2 = .ok (.iconst 0, 1) := by decide +kernel
theorem dX0_agreed_3 : decode cX0_agreed 3 = .ok (.istore_n 2, 1) := by decide +kernel
theorem dX0_agreed_4 : decode cX0_agreed 4 = .ok (.iload_n 2, 1) := by decide +kernel
theorem dX0_agreed_5 : decode cX0_agreed 5 = .ok (.bipush 6, 2) := by decide +kernel
theorem dX0_agreed_7 : decode cX0_agreed 7 = .ok (.if_icmp .ge 87, 3) := by decide +kernel
theorem dX0_agreed_10 : decode cX0_agreed 10 = .ok (.aload_n 0, 1) := by decide +kernel
theorem dX0_agreed_11 : decode cX0_agreed 11 = .ok (.iload_n 2, 1) := by decide +kernel
theorem dX0_agreed_12 : decode cX0_agreed 12 = .ok (.invokevirtual 100, 3) := by decide +kernel
theorem dX0_agreed_15 : decode cX0_agreed 15 = .ok (.istore_n 3, 1) := by decide +kernel
theorem dX0_agreed_16 : decode cX0_agreed 16 = .ok (.iload_n 3, 1) := by decide +kernel
theorem dX0_agreed_17 : decode cX0_agreed 17 = .ok (.ifCond .eq 7, 3) := by decide +kernel
theorem dX0_agreed_20 : decode cX0_agreed 20 = .ok (.iconst 1, 1) := by decide +kernel
theorem dX0_agreed_21 : decode cX0_agreed 21 = .ok (.goto 4, 3) := by decide +kernel
theorem dX0_agreed_24 : decode cX0_agreed 24 = .ok (.iconst 0, 1) := by decide +kernel
theorem dX0_agreed_25 : decode cX0_agreed 25 = .ok (.istore 4, 2) := by decide +kernel
theorem dX0_agreed_27 : decode cX0_agreed 27 = .ok (.iconst 0, 1) := by decide +kernel
theorem dX0_agreed_28 : decode cX0_agreed 28 = .ok (.istore 5, 2) := by decide +kernel
theorem dX0_agreed_30 : decode cX0_agreed 30 = .ok (.iload 5, 2) := by decide +kernel
theorem dX0_agreed_32 : decode cX0_agreed 32 = .ok (.aload_n 0, 1) := by decide +kernel
theorem dX0_agreed_33 : decode cX0_agreed 33 = .ok (.getfield 44, 3) := by decide +kernel
theorem dX0_agreed_36 : decode cX0_agreed 36 = .ok (.if_icmp .ge 41, 3) := by decide +kernel
theorem dX0_agreed_39 : decode cX0_agreed 39 = .ok (.aload_n 0, 1) := by decide +kernel
theorem dX0_agreed_40 : decode cX0_agreed 40 = .ok (.iload 5, 2) := by decide +kernel
theorem dX0_agreed_42 : decode cX0_agreed 42 = .ok (.iload_n 2, 1) := by decide +kernel
theorem dX0_agreed_43 : decode cX0_agreed 43 = .ok (.invokevirtual 80, 3) := by decide +kernel
theorem dX0_agreed_46 : decode cX0_agreed 46 = .ok (.istore 6, 2) := by decide +kernel
theorem dX0_agreed_48 : decode cX0_agreed 48 = .ok (.iload 4, 2) := by decide +kernel
theorem dX0_agreed_50 : decode cX0_agreed 50 = .ok (.ifCond .eq 18, 3) := by decide +kernel
theorem dX0_agreed_53 : decode cX0_agreed 53 = .ok (.iload 6, 2) := by decide +kernel
theorem dX0_agreed_55 : decode cX0_agreed 55 = .ok (.ifCond .eq 9, 3) := by decide +kernel
theorem dX0_agreed_58 : decode cX0_agreed 58 = .ok (.iload 6, 2) := by decide +kernel
theorem dX0_agreed_60 : decode cX0_agreed 60 = .ok (.iload_n 3, 1) := by decide +kernel
theorem dX0_agreed_61 : decode cX0_agreed 61 = .ok (.if_icmp .ne 7, 3) := by decide +kernel
theorem dX0_agreed_64 : decode cX0_agreed 64 = .ok (.iconst 1, 1) := by decide +kernel
theorem dX0_agreed_65 : decode cX0_agreed 65 = .ok (.goto 4, 3) := by decide +kernel
theorem dX0_agreed_68 : decode cX0_agreed 68 = .ok (.iconst 0, 1) := by decide +kernel
theorem dX0_agreed_69 : decode cX0_agreed 69 = .ok (.istore 4, 2) := by decide +kernel
theorem dX0_agreed_71 : decode cX0_agreed 71 = .ok (.iinc 5 1, 3) := by decide +kernel
theorem dX0_agreed_74 : decode cX0_agreed 74 = .ok (.goto (-44), 3) := by decide +kernel
theorem dX0_agreed_77 : decode cX0_agreed 77 = .ok (.iload 4, 2) := by decide +kernel
theorem dX0_agreed_79 : decode cX0_agreed 79 = .ok (.ifCond .eq 9, 3) := by decide +kernel
theorem dX0_agreed_82 : decode cX0_agreed 82 = .ok (.iload_n 1, 1) := by decide +kernel
theorem dX0_agreed_83 : decode cX0_agreed 83 = .ok (.iconst 1, 1) := by decide +kernel
theorem dX0_agreed_84 : decode cX0_agreed 84 = .ok (.iload_n 2, 1) := by decide +kernel
theorem dX0_agreed_85 : decode cX0_agreed 85 = .ok (.ishl, 1) := by decide +kernel
theorem dX0_agreed_86 : decode cX0_agreed 86 = .ok (.ior, 1) := by decide +kernel
theorem dX0_agreed_87 : decode cX0_agreed 87 = .ok (.istore_n 1, 1) := by decide +kernel
theorem dX0_agreed_88 : decode cX0_agreed 88 = .ok (.iinc 2 1, 3) := by decide +kernel
theorem dX0_agreed_91 : decode cX0_agreed 91 = .ok (.goto (-87), 3) := by decide +kernel
theorem dX0_agreed_94 : decode cX0_agreed 94 = .ok (.iload_n 1, 1) := by decide +kernel
theorem dX0_agreed_95 : decode cX0_agreed 95 = .ok (.ireturn, 1) := by decide +kernel
theorem dX0_sureOfAll_0 : decode cX0_sureOfAll 0 = .ok (.iconst 0, 1) := by decide +kernel
theorem dX0_sureOfAll_1 : decode cX0_sureOfAll 1 = .ok (.istore_n 1, 1) := by decide +kernel
theorem dX0_sureOfAll_2 : decode cX0_sureOfAll 2 = .ok (.iconst 0, 1) := by decide +kernel
theorem dX0_sureOfAll_3 : decode cX0_sureOfAll 3 = .ok (.istore_n 2, 1) := by decide +kernel
theorem dX0_sureOfAll_4 : decode cX0_sureOfAll 4 = .ok (.iload_n 2, 1) := by decide +kernel
theorem dX0_sureOfAll_5 : decode cX0_sureOfAll 5 = .ok (.aload_n 0, 1) := by decide +kernel
theorem dX0_sureOfAll_6 : decode cX0_sureOfAll 6 = .ok (.getfield 44, 3) := by decide +kernel
theorem dX0_sureOfAll_9 : decode cX0_sureOfAll 9 = .ok (.if_icmp .ge 18, 3) := by decide +kernel
theorem dX0_sureOfAll_12 : decode cX0_sureOfAll 12 = .ok (.iload_n 1, 1) := by decide +kernel
theorem dX0_sureOfAll_13 : decode cX0_sureOfAll 13 = .ok (.aload_n 0, 1) := by decide +kernel
theorem dX0_sureOfAll_14 : decode cX0_sureOfAll 14 = .ok (.getfield 21, 3) := by decide +kernel
theorem dX0_sureOfAll_17 : decode cX0_sureOfAll 17 = .ok (.iload_n 2, 1) := by decide +kernel
theorem dX0_sureOfAll_18 : decode cX0_sureOfAll 18 = .ok (.iaload, 1) := by decide +kernel
theorem dX0_sureOfAll_19 : decode cX0_sureOfAll 19 = .ok (.iadd, 1) := by decide +kernel
theorem dX0_sureOfAll_20 : decode cX0_sureOfAll 20 = .ok (.istore_n 1, 1) := by decide +kernel
theorem dX0_sureOfAll_21 : decode cX0_sureOfAll 21 = .ok (.iinc 2 1, 3) := by decide +kernel
theorem dX0_sureOfAll_24 : decode cX0_sureOfAll 24 = .ok (.goto (-20), 3) := by decide +kernel
theorem dX0_sureOfAll_27 : decode cX0_sureOfAll 27 = .ok (.iload_n 1, 1) := by decide +kernel
theorem dX0_sureOfAll_28 : decode cX0_sureOfAll 28 = .ok (.ireturn, 1) := by decide +kernel
theorem dX0_wordOf_0 : decode cX0_wordOf 0 = .ok (.aload_n 0, 1) := by decide +kernel
theorem dX0_wordOf_1 : decode cX0_wordOf 1 = .ok (.iload_n 1, 1) := by decide +kernel
theorem dX0_wordOf_2 : decode cX0_wordOf 2 = .ok (.iload_n 2, 1) := by decide +kernel
theorem dX0_wordOf_3 : decode cX0_wordOf 3 = .ok (.invokevirtual 80, 3) := by decide +kernel
theorem dX0_wordOf_6 : decode cX0_wordOf 6 = .ok (.istore_n 3, 1) := by decide +kernel
theorem dX0_wordOf_7 : decode cX0_wordOf 7 = .ok (.aload_n 0, 1) := by decide +kernel
theorem dX0_wordOf_8 : decode cX0_wordOf 8 = .ok (.getfield 9, 3) := by decide +kernel
theorem dX0_wordOf_11 : decode cX0_wordOf 11 = .ok (.iload_n 1, 1) := by decide +kernel
theorem dX0_wordOf_12 : decode cX0_wordOf 12 = .ok (.iaload, 1) := by decide +kernel
theorem dX0_wordOf_13 : decode cX0_wordOf 13 = .ok (.tableswitch 72 1 5 #[35, 56, 40, 63, 69], 35) := by decide +kernel
theorem dX0_wordOf_48 : decode cX0_wordOf 48 = .ok (.iload_n 3, 1) := by decide +kernel
theorem dX0_wordOf_49 : decode cX0_wordOf 49 = .ok (.invokestatic 103, 3) := by decide +kernel
theorem dX0_wordOf_52 : decode cX0_wordOf 52 = .ok (.ireturn, 1) := by decide +kernel
theorem dX0_wordOf_53 : decode cX0_wordOf 53 = .ok (.iload_n 3, 1) := by decide +kernel
theorem dX0_wordOf_54 : decode cX0_wordOf 54 = .ok (.ifCond .ne 7, 3) := by decide +kernel
theorem dX0_wordOf_57 : decode cX0_wordOf 57 = .ok (.iconst 0, 1) := by decide +kernel
theorem dX0_wordOf_58 : decode cX0_wordOf 58 = .ok (.goto 10, 3) := by decide +kernel
theorem dX0_wordOf_61 : decode cX0_wordOf 61 = .ok (.bipush 10, 2) := by decide +kernel
theorem dX0_wordOf_63 : decode cX0_wordOf 63 = .ok (.iload_n 3, 1) := by decide +kernel
theorem dX0_wordOf_64 : decode cX0_wordOf 64 = .ok (.invokestatic 103, 3) := by decide +kernel
theorem dX0_wordOf_67 : decode cX0_wordOf 67 = .ok (.isub, 1) := by decide +kernel
theorem dX0_wordOf_68 : decode cX0_wordOf 68 = .ok (.ireturn, 1) := by decide +kernel
theorem dX0_wordOf_69 : decode cX0_wordOf 69 = .ok (.aload_n 0, 1) := by decide +kernel
theorem dX0_wordOf_70 : decode cX0_wordOf 70 = .ok (.getfield 27, 3) := by decide +kernel
theorem dX0_wordOf_73 : decode cX0_wordOf 73 = .ok (.iload_n 2, 1) := by decide +kernel
theorem dX0_wordOf_74 : decode cX0_wordOf 74 = .ok (.iaload, 1) := by decide +kernel
theorem dX0_wordOf_75 : decode cX0_wordOf 75 = .ok (.ireturn, 1) := by decide +kernel
theorem dX0_wordOf_76 : decode cX0_wordOf 76 = .ok (.aload_n 0, 1) := by decide +kernel
theorem dX0_wordOf_77 : decode cX0_wordOf 77 = .ok (.iload_n 2, 1) := by decide +kernel
theorem dX0_wordOf_78 : decode cX0_wordOf 78 = .ok (.invokevirtual 106, 3) := by decide +kernel
theorem dX0_wordOf_81 : decode cX0_wordOf 81 = .ok (.ireturn, 1) := by decide +kernel
theorem dX0_wordOf_82 : decode cX0_wordOf 82 = .ok (.bipush 9, 2) := by decide +kernel
theorem dX0_wordOf_84 : decode cX0_wordOf 84 = .ok (.ireturn, 1) := by decide +kernel
theorem dX0_wordOf_85 : decode cX0_wordOf 85 = .ok (.iload_n 3, 1) := by decide +kernel
theorem dX0_wordOf_86 : decode cX0_wordOf 86 = .ok (.ireturn, 1) := by decide +kernel
theorem dX0_oneMore_0 : decode cX0_oneMore 0 = .ok (.iload_n 0, 1) := by decide +kernel
theorem dX0_oneMore_1 : decode cX0_oneMore 1 = .ok (.ifCond .ne 5, 3) := by decide +kernel
theorem dX0_oneMore_4 : decode cX0_oneMore 4 = .ok (.iconst 0, 1) := by decide +kernel
theorem dX0_oneMore_5 : decode cX0_oneMore 5 = .ok (.ireturn, 1) := by decide +kernel
theorem dX0_oneMore_6 : decode cX0_oneMore 6 = .ok (.iload_n 0, 1) := by decide +kernel
theorem dX0_oneMore_7 : decode cX0_oneMore 7 = .ok (.bipush 9, 2) := by decide +kernel
theorem dX0_oneMore_9 : decode cX0_oneMore 9 = .ok (.if_icmp .ne 7, 3) := by decide +kernel
theorem dX0_oneMore_12 : decode cX0_oneMore 12 = .ok (.iconst 1, 1) := by decide +kernel
theorem dX0_oneMore_13 : decode cX0_oneMore 13 = .ok (.goto 6, 3) := by decide +kernel
theorem dX0_oneMore_16 : decode cX0_oneMore 16 = .ok (.iload_n 0, 1) := by decide +kernel
theorem dX0_oneMore_17 : decode cX0_oneMore 17 = .ok (.iconst 1, 1) := by decide +kernel
theorem dX0_oneMore_18 : decode cX0_oneMore 18 = .ok (.iadd, 1) := by decide +kernel
theorem dX0_oneMore_19 : decode cX0_oneMore 19 = .ok (.ireturn, 1) := by decide +kernel
theorem dX0_tradersWord_0 : decode cX0_tradersWord 0 = .ok (.aload_n 0, 1) := by decide +kernel
theorem dX0_tradersWord_1 : decode cX0_tradersWord 1 = .ok (.iload_n 1, 1) := by decide +kernel
theorem dX0_tradersWord_2 : decode cX0_tradersWord 2 = .ok (.invokevirtual 100, 3) := by decide +kernel
theorem dX0_tradersWord_5 : decode cX0_tradersWord 5 = .ok (.istore_n 2, 1) := by decide +kernel
theorem dX0_tradersWord_6 : decode cX0_tradersWord 6 = .ok (.iload_n 2, 1) := by decide +kernel
theorem dX0_tradersWord_7 : decode cX0_tradersWord 7 = .ok (.ifCond .eq 7, 3) := by decide +kernel
theorem dX0_tradersWord_10 : decode cX0_tradersWord 10 = .ok (.iload_n 2, 1) := by decide +kernel
theorem dX0_tradersWord_11 : decode cX0_tradersWord 11 = .ok (.goto 9, 3) := by decide +kernel
theorem dX0_tradersWord_14 : decode cX0_tradersWord 14 = .ok (.aload_n 0, 1) := by decide +kernel
theorem dX0_tradersWord_15 : decode cX0_tradersWord 15 = .ok (.getfield 27, 3) := by decide +kernel
theorem dX0_tradersWord_18 : decode cX0_tradersWord 18 = .ok (.iload_n 1, 1) := by decide +kernel
theorem dX0_tradersWord_19 : decode cX0_tradersWord 19 = .ok (.iaload, 1) := by decide +kernel
theorem dX0_tradersWord_20 : decode cX0_tradersWord 20 = .ok (.ireturn, 1) := by decide +kernel
theorem dX0_heedOf_0 : decode cX0_heedOf 0 = .ok (.aload_n 0, 1) := by decide +kernel
theorem dX0_heedOf_1 : decode cX0_heedOf 1 = .ok (.getfield 9, 3) := by decide +kernel
theorem dX0_heedOf_4 : decode cX0_heedOf 4 = .ok (.iload_n 1, 1) := by decide +kernel
theorem dX0_heedOf_5 : decode cX0_heedOf 5 = .ok (.iaload, 1) := by decide +kernel
theorem dX0_heedOf_6 : decode cX0_heedOf 6 = .ok (.tableswitch 73 1 5 #[34, 56, 44, 58, 70], 34) := by decide +kernel
theorem dX0_heedOf_40 : decode cX0_heedOf 40 = .ok (.aload_n 0, 1) := by decide +kernel
theorem dX0_heedOf_41 : decode cX0_heedOf 41 = .ok (.iload_n 1, 1) := by decide +kernel
theorem dX0_heedOf_42 : decode cX0_heedOf 42 = .ok (.iload_n 2, 1) := by decide +kernel
theorem dX0_heedOf_43 : decode cX0_heedOf 43 = .ok (.iload_n 3, 1) := by decide +kernel
theorem dX0_heedOf_44 : decode cX0_heedOf 44 = .ok (.invokevirtual 109, 3) := by decide +kernel
theorem dX0_heedOf_47 : decode cX0_heedOf 47 = .ok (.iconst 3, 1) := by decide +kernel
theorem dX0_heedOf_48 : decode cX0_heedOf 48 = .ok (.iadd, 1) := by decide +kernel
theorem dX0_heedOf_49 : decode cX0_heedOf 49 = .ok (.ireturn, 1) := by decide +kernel
theorem dX0_heedOf_50 : decode cX0_heedOf 50 = .ok (.aload_n 0, 1) := by decide +kernel
theorem dX0_heedOf_51 : decode cX0_heedOf 51 = .ok (.iload_n 1, 1) := by decide +kernel
theorem dX0_heedOf_52 : decode cX0_heedOf 52 = .ok (.iload_n 2, 1) := by decide +kernel
theorem dX0_heedOf_53 : decode cX0_heedOf 53 = .ok (.iload_n 3, 1) := by decide +kernel
theorem dX0_heedOf_54 : decode cX0_heedOf 54 = .ok (.invokevirtual 109, 3) := by decide +kernel
theorem dX0_heedOf_57 : decode cX0_heedOf 57 = .ok (.iconst 3, 1) := by decide +kernel
theorem dX0_heedOf_58 : decode cX0_heedOf 58 = .ok (.iadd, 1) := by decide +kernel
theorem dX0_heedOf_59 : decode cX0_heedOf 59 = .ok (.iconst 2, 1) := by decide +kernel
theorem dX0_heedOf_60 : decode cX0_heedOf 60 = .ok (.idiv, 1) := by decide +kernel
theorem dX0_heedOf_61 : decode cX0_heedOf 61 = .ok (.ireturn, 1) := by decide +kernel
theorem dX0_heedOf_62 : decode cX0_heedOf 62 = .ok (.iconst 0, 1) := by decide +kernel
theorem dX0_heedOf_63 : decode cX0_heedOf 63 = .ok (.ireturn, 1) := by decide +kernel
theorem dX0_heedOf_64 : decode cX0_heedOf 64 = .ok (.iconst 2, 1) := by decide +kernel
theorem dX0_heedOf_65 : decode cX0_heedOf 65 = .ok (.aload_n 0, 1) := by decide +kernel
theorem dX0_heedOf_66 : decode cX0_heedOf 66 = .ok (.iload_n 2, 1) := by decide +kernel
theorem dX0_heedOf_67 : decode cX0_heedOf 67 = .ok (.iload_n 3, 1) := by decide +kernel
theorem dX0_heedOf_68 : decode cX0_heedOf 68 = .ok (.invokevirtual 113, 3) := by decide +kernel
theorem dX0_heedOf_71 : decode cX0_heedOf 71 = .ok (.invokestatic 116, 3) := by decide +kernel
theorem dX0_heedOf_74 : decode cX0_heedOf 74 = .ok (.imul, 1) := by decide +kernel
theorem dX0_heedOf_75 : decode cX0_heedOf 75 = .ok (.ireturn, 1) := by decide +kernel
theorem dX0_heedOf_76 : decode cX0_heedOf 76 = .ok (.bipush 99, 2) := by decide +kernel
theorem dX0_heedOf_78 : decode cX0_heedOf 78 = .ok (.ireturn, 1) := by decide +kernel
theorem dX0_heedOf_79 : decode cX0_heedOf 79 = .ok (.aload_n 0, 1) := by decide +kernel
theorem dX0_heedOf_80 : decode cX0_heedOf 80 = .ok (.iload_n 1, 1) := by decide +kernel
theorem dX0_heedOf_81 : decode cX0_heedOf 81 = .ok (.iload_n 2, 1) := by decide +kernel
theorem dX0_heedOf_82 : decode cX0_heedOf 82 = .ok (.iload_n 3, 1) := by decide +kernel
theorem dX0_heedOf_83 : decode cX0_heedOf 83 = .ok (.invokevirtual 109, 3) := by decide +kernel
theorem dX0_heedOf_86 : decode cX0_heedOf 86 = .ok (.ireturn, 1) := by decide +kernel
theorem dX0_plainHeed_0 : decode cX0_plainHeed 0 = .ok (.aload_n 0, 1) := by decide +kernel
theorem dX0_plainHeed_1 : decode cX0_plainHeed 1 = .ok (.getfield 37, 3) := by decide +kernel
theorem dX0_plainHeed_4 : decode cX0_plainHeed 4 = .ok (.iconst 0, 1) := by decide +kernel
theorem dX0_plainHeed_5 : decode cX0_plainHeed 5 = .ok (.iaload, 1) := by decide +kernel
theorem dX0_plainHeed_6 : decode cX0_plainHeed 6 = .ok (.istore 4, 2) := by decide +kernel
theorem dX0_plainHeed_8 : decode cX0_plainHeed 8 = .ok (.iload 4, 2) := by decide +kernel
theorem dX0_plainHeed_10 : decode cX0_plainHeed 10 = .ok (.ifCond .ge 10, 3) := by decide +kernel
theorem dX0_plainHeed_13 : decode cX0_plainHeed 13 = .ok (.aload_n 0, 1) := by decide +kernel
theorem dX0_plainHeed_14 : decode cX0_plainHeed 14 = .ok (.getfield 18, 3) := by decide +kernel
theorem dX0_plainHeed_17 : decode cX0_plainHeed 17 = .ok (.iload_n 1, 1) := by decide +kernel
theorem dX0_plainHeed_18 : decode cX0_plainHeed 18 = .ok (.iaload, 1) := by decide +kernel
theorem dX0_plainHeed_19 : decode cX0_plainHeed 19 = .ok (.ireturn, 1) := by decide +kernel
theorem dX0_plainHeed_20 : decode cX0_plainHeed 20 = .ok (.aload_n 0, 1) := by decide +kernel
theorem dX0_plainHeed_21 : decode cX0_plainHeed 21 = .ok (.getfield 40, 3) := by decide +kernel
theorem dX0_plainHeed_24 : decode cX0_plainHeed 24 = .ok (.getfield 121, 3) := by decide +kernel
theorem dX0_plainHeed_27 : decode cX0_plainHeed 27 = .ok (.iconst 0, 1) := by decide +kernel
theorem dX0_plainHeed_28 : decode cX0_plainHeed 28 = .ok (.aload_n 0, 1) := by decide +kernel
theorem dX0_plainHeed_29 : decode cX0_plainHeed 29 = .ok (.getfield 18, 3) := by decide +kernel
theorem dX0_plainHeed_32 : decode cX0_plainHeed 32 = .ok (.iload_n 1, 1) := by decide +kernel
theorem dX0_plainHeed_33 : decode cX0_plainHeed 33 = .ok (.iaload, 1) := by decide +kernel
theorem dX0_plainHeed_34 : decode cX0_plainHeed 34 = .ok (.iastore, 1) := by decide +kernel
theorem dX0_plainHeed_35 : decode cX0_plainHeed 35 = .ok (.aload_n 0, 1) := by decide +kernel
theorem dX0_plainHeed_36 : decode cX0_plainHeed 36 = .ok (.getfield 40, 3) := by decide +kernel
theorem dX0_plainHeed_39 : decode cX0_plainHeed 39 = .ok (.getfield 121, 3) := by decide +kernel
theorem dX0_plainHeed_42 : decode cX0_plainHeed 42 = .ok (.iconst 1, 1) := by decide +kernel
theorem dX0_plainHeed_43 : decode cX0_plainHeed 43 = .ok (.aload_n 0, 1) := by decide +kernel
theorem dX0_plainHeed_44 : decode cX0_plainHeed 44 = .ok (.iload_n 2, 1) := by decide +kernel
theorem dX0_plainHeed_45 : decode cX0_plainHeed 45 = .ok (.iload_n 3, 1) := by decide +kernel
theorem dX0_plainHeed_46 : decode cX0_plainHeed 46 = .ok (.invokevirtual 113, 3) := by decide +kernel
theorem dX0_plainHeed_49 : decode cX0_plainHeed 49 = .ok (.invokestatic 116, 3) := by decide +kernel
theorem dX0_plainHeed_52 : decode cX0_plainHeed 52 = .ok (.iastore, 1) := by decide +kernel
theorem dX0_plainHeed_53 : decode cX0_plainHeed 53 = .ok (.aload_n 0, 1) := by decide +kernel
theorem dX0_plainHeed_54 : decode cX0_plainHeed 54 = .ok (.getfield 40, 3) := by decide +kernel
theorem dX0_plainHeed_57 : decode cX0_plainHeed 57 = .ok (.getfield 121, 3) := by decide +kernel
theorem dX0_plainHeed_60 : decode cX0_plainHeed 60 = .ok (.iconst 2, 1) := by decide +kernel
theorem dX0_plainHeed_61 : decode cX0_plainHeed 61 = .ok (.aload_n 0, 1) := by decide +kernel
theorem dX0_plainHeed_62 : decode cX0_plainHeed 62 = .ok (.getfield 21, 3) := by decide +kernel
theorem dX0_plainHeed_65 : decode cX0_plainHeed 65 = .ok (.iload_n 1, 1) := by decide +kernel
theorem dX0_plainHeed_66 : decode cX0_plainHeed 66 = .ok (.iaload, 1) := by decide +kernel
theorem dX0_plainHeed_67 : decode cX0_plainHeed 67 = .ok (.iastore, 1) := by decide +kernel
theorem dX0_plainHeed_68 : decode cX0_plainHeed 68 = .ok (.aload_n 0, 1) := by decide +kernel
theorem dX0_plainHeed_69 : decode cX0_plainHeed 69 = .ok (.getfield 40, 3) := by decide +kernel
theorem dX0_plainHeed_72 : decode cX0_plainHeed 72 = .ok (.getfield 121, 3) := by decide +kernel
theorem dX0_plainHeed_75 : decode cX0_plainHeed 75 = .ok (.iconst 3, 1) := by decide +kernel
theorem dX0_plainHeed_76 : decode cX0_plainHeed 76 = .ok (.iload_n 3, 1) := by decide +kernel
theorem dX0_plainHeed_77 : decode cX0_plainHeed 77 = .ok (.iastore, 1) := by decide +kernel
theorem dX0_plainHeed_78 : decode cX0_plainHeed 78 = .ok (.aload_n 0, 1) := by decide +kernel
theorem dX0_plainHeed_79 : decode cX0_plainHeed 79 = .ok (.getfield 40, 3) := by decide +kernel
theorem dX0_plainHeed_82 : decode cX0_plainHeed 82 = .ok (.iload 4, 2) := by decide +kernel
theorem dX0_plainHeed_84 : decode cX0_plainHeed 84 = .ok (.invokevirtual 126, 3) := by decide +kernel
theorem dX0_plainHeed_87 : decode cX0_plainHeed 87 = .ok (.iconst 0, 1) := by decide +kernel
theorem dX0_plainHeed_88 : decode cX0_plainHeed 88 = .ok (.bipush 99, 2) := by decide +kernel
theorem dX0_plainHeed_90 : decode cX0_plainHeed 90 = .ok (.invokestatic 129, 3) := by decide +kernel
theorem dX0_plainHeed_93 : decode cX0_plainHeed 93 = .ok (.ireturn, 1) := by decide +kernel
theorem dX0_pass_0 : decode cX0_pass 0 = .ok (.iconst 0, 1) := by decide +kernel
theorem dX0_pass_1 : decode cX0_pass 1 = .ok (.istore_n 2, 1) := by decide +kernel
theorem dX0_pass_2 : decode cX0_pass 2 = .ok (.iload_n 2, 1) := by decide +kernel
theorem dX0_pass_3 : decode cX0_pass 3 = .ok (.iload_n 1, 1) := by decide +kernel
theorem dX0_pass_4 : decode cX0_pass 4 = .ok (.if_icmp .ge 48, 3) := by decide +kernel
theorem dX0_pass_7 : decode cX0_pass 7 = .ok (.iconst 0, 1) := by decide +kernel
theorem dX0_pass_8 : decode cX0_pass 8 = .ok (.istore_n 3, 1) := by decide +kernel
theorem dX0_pass_9 : decode cX0_pass 9 = .ok (.iload_n 3, 1) := by decide +kernel
theorem dX0_pass_10 : decode cX0_pass 10 = .ok (.aload_n 0, 1) := by decide +kernel
theorem dX0_pass_11 : decode cX0_pass 11 = .ok (.getfield 44, 3) := by decide +kernel
theorem dX0_pass_14 : decode cX0_pass 14 = .ok (.if_icmp .ge 14, 3) := by decide +kernel
theorem dX0_pass_17 : decode cX0_pass 17 = .ok (.aload_n 0, 1) := by decide +kernel
theorem dX0_pass_18 : decode cX0_pass 18 = .ok (.iload_n 3, 1) := by decide +kernel
theorem dX0_pass_19 : decode cX0_pass 19 = .ok (.invokevirtual 132, 3) := by decide +kernel
theorem dX0_pass_22 : decode cX0_pass 22 = .ok (.iinc 3 1, 3) := by decide +kernel
theorem dX0_pass_25 : decode cX0_pass 25 = .ok (.goto (-16), 3) := by decide +kernel
theorem dX0_pass_28 : decode cX0_pass 28 = .ok (.aload_n 0, 1) := by decide +kernel
theorem dX0_pass_29 : decode cX0_pass 29 = .ok (.invokevirtual 136, 3) := by decide +kernel
theorem dX0_pass_32 : decode cX0_pass 32 = .ok (.aload_n 0, 1) := by decide +kernel
theorem dX0_pass_33 : decode cX0_pass 33 = .ok (.invokevirtual 139, 3) := by decide +kernel
theorem dX0_pass_36 : decode cX0_pass 36 = .ok (.aload_n 0, 1) := by decide +kernel
theorem dX0_pass_37 : decode cX0_pass 37 = .ok (.dup, 1) := by decide +kernel
theorem dX0_pass_38 : decode cX0_pass 38 = .ok (.getfield 62, 3) := by decide +kernel
theorem dX0_pass_41 : decode cX0_pass 41 = .ok (.iconst 1, 1) := by decide +kernel
theorem dX0_pass_42 : decode cX0_pass 42 = .ok (.iadd, 1) := by decide +kernel
theorem dX0_pass_43 : decode cX0_pass 43 = .ok (.putfield 62, 3) := by decide +kernel
theorem dX0_pass_46 : decode cX0_pass 46 = .ok (.iinc 2 1, 3) := by decide +kernel
theorem dX0_pass_49 : decode cX0_pass 49 = .ok (.goto (-47), 3) := by decide +kernel
theorem dX0_pass_52 : decode cX0_pass 52 = .ok (.return_, 1) := by decide +kernel
theorem dX0_speak_0 : decode cX0_speak 0 = .ok (.aload_n 0, 1) := by decide +kernel
theorem dX0_speak_1 : decode cX0_speak 1 = .ok (.getfield 62, 3) := by decide +kernel
theorem dX0_speak_4 : decode cX0_speak 4 = .ok (.iload_n 1, 1) := by decide +kernel
theorem dX0_speak_5 : decode cX0_speak 5 = .ok (.iadd, 1) := by decide +kernel
theorem dX0_speak_6 : decode cX0_speak 6 = .ok (.bipush 6, 2) := by decide +kernel
theorem dX0_speak_8 : decode cX0_speak 8 = .ok (.irem, 1) := by decide +kernel
theorem dX0_speak_9 : decode cX0_speak 9 = .ok (.istore_n 2, 1) := by decide +kernel
theorem dX0_speak_10 : decode cX0_speak 10 = .ok (.aload_n 0, 1) := by decide +kernel
theorem dX0_speak_11 : decode cX0_speak 11 = .ok (.iload_n 1, 1) := by decide +kernel
theorem dX0_speak_12 : decode cX0_speak 12 = .ok (.iload_n 2, 1) := by decide +kernel
theorem dX0_speak_13 : decode cX0_speak 13 = .ok (.invokevirtual 142, 3) := by decide +kernel
theorem dX0_speak_16 : decode cX0_speak 16 = .ok (.istore_n 3, 1) := by decide +kernel
theorem dX0_speak_17 : decode cX0_speak 17 = .ok (.iload_n 3, 1) := by decide +kernel
theorem dX0_speak_18 : decode cX0_speak 18 = .ok (.ifCond .ne 4, 3) := by decide +kernel
theorem dX0_speak_21 : decode cX0_speak 21 = .ok (.return_, 1) := by decide +kernel
theorem dX0_speak_22 : decode cX0_speak 22 = .ok (.iconst 0, 1) := by decide +kernel
theorem dX0_speak_23 : decode cX0_speak 23 = .ok (.istore 4, 2) := by decide +kernel
theorem dX0_speak_25 : decode cX0_speak 25 = .ok (.iload 4, 2) := by decide +kernel
theorem dX0_speak_27 : decode cX0_speak 27 = .ok (.aload_n 0, 1) := by decide +kernel
theorem dX0_speak_28 : decode cX0_speak 28 = .ok (.getfield 44, 3) := by decide +kernel
theorem dX0_speak_31 : decode cX0_speak 31 = .ok (.if_icmp .ge 99, 3) := by decide +kernel
theorem dX0_speak_34 : decode cX0_speak 34 = .ok (.aload_n 0, 1) := by decide +kernel
theorem dX0_speak_35 : decode cX0_speak 35 = .ok (.iload 4, 2) := by decide +kernel
theorem dX0_speak_37 : decode cX0_speak 37 = .ok (.iload_n 1, 1) := by decide +kernel
theorem dX0_speak_38 : decode cX0_speak 38 = .ok (.invokevirtual 90, 3) := by decide +kernel
theorem dX0_speak_41 : decode cX0_speak 41 = .ok (.ifCond .ne 6, 3) := by decide +kernel
theorem dX0_speak_44 : decode cX0_speak 44 = .ok (.goto 80, 3) := by decide +kernel
theorem dX0_speak_47 : decode cX0_speak 47 = .ok (.aload_n 0, 1) := by decide +kernel
theorem dX0_speak_48 : decode cX0_speak 48 = .ok (.iload 4, 2) := by decide +kernel
theorem dX0_speak_50 : decode cX0_speak 50 = .ok (.iload_n 2, 1) := by decide +kernel
theorem dX0_speak_51 : decode cX0_speak 51 = .ok (.iload_n 3, 1) := by decide +kernel
theorem dX0_speak_52 : decode cX0_speak 52 = .ok (.invokevirtual 145, 3) := by decide +kernel
theorem dX0_speak_55 : decode cX0_speak 55 = .ok (.istore 5, 2) := by decide +kernel
theorem dX0_speak_57 : decode cX0_speak 57 = .ok (.iload 5, 2) := by decide +kernel
theorem dX0_speak_59 : decode cX0_speak 59 = .ok (.aload_n 0, 1) := by decide +kernel
theorem dX0_speak_60 : decode cX0_speak 60 = .ok (.getfield 21, 3) := by decide +kernel
theorem dX0_speak_63 : decode cX0_speak 63 = .ok (.iload 4, 2) := by decide +kernel
theorem dX0_speak_65 : decode cX0_speak 65 = .ok (.iaload, 1) := by decide +kernel
theorem dX0_speak_66 : decode cX0_speak 66 = .ok (.if_icmp .le 38, 3) := by decide +kernel
theorem dX0_speak_69 : decode cX0_speak 69 = .ok (.aload_n 0, 1) := by decide +kernel
theorem dX0_speak_70 : decode cX0_speak 70 = .ok (.iload 4, 2) := by decide +kernel
theorem dX0_speak_72 : decode cX0_speak 72 = .ok (.iload_n 2, 1) := by decide +kernel
theorem dX0_speak_73 : decode cX0_speak 73 = .ok (.iload_n 3, 1) := by decide +kernel
theorem dX0_speak_74 : decode cX0_speak 74 = .ok (.invokevirtual 68, 3) := by decide +kernel
theorem dX0_speak_77 : decode cX0_speak 77 = .ok (.aload_n 0, 1) := by decide +kernel
theorem dX0_speak_78 : decode cX0_speak 78 = .ok (.getfield 21, 3) := by decide +kernel
theorem dX0_speak_81 : decode cX0_speak 81 = .ok (.iload 4, 2) := by decide +kernel
theorem dX0_speak_83 : decode cX0_speak 83 = .ok (.iload 5, 2) := by decide +kernel
theorem dX0_speak_85 : decode cX0_speak 85 = .ok (.bipush 99, 2) := by decide +kernel
theorem dX0_speak_87 : decode cX0_speak 87 = .ok (.invokestatic 148, 3) := by decide +kernel
theorem dX0_speak_90 : decode cX0_speak 90 = .ok (.iastore, 1) := by decide +kernel
theorem dX0_speak_91 : decode cX0_speak 91 = .ok (.aload_n 0, 1) := by decide +kernel
theorem dX0_speak_92 : decode cX0_speak 92 = .ok (.dup, 1) := by decide +kernel
theorem dX0_speak_93 : decode cX0_speak 93 = .ok (.getfield 59, 3) := by decide +kernel
theorem dX0_speak_96 : decode cX0_speak 96 = .ok (.iconst 1, 1) := by decide +kernel
theorem dX0_speak_97 : decode cX0_speak 97 = .ok (.iadd, 1) := by decide +kernel
theorem dX0_speak_98 : decode cX0_speak 98 = .ok (.putfield 59, 3) := by decide +kernel
theorem dX0_speak_101 : decode cX0_speak 101 = .ok (.goto 23, 3) := by decide +kernel
theorem dX0_speak_104 : decode cX0_speak 104 = .ok (.aload_n 0, 1) := by decide +kernel
theorem dX0_speak_105 : decode cX0_speak 105 = .ok (.getfield 21, 3) := by decide +kernel
theorem dX0_speak_108 : decode cX0_speak 108 = .ok (.iload 4, 2) := by decide +kernel
theorem dX0_speak_110 : decode cX0_speak 110 = .ok (.aload_n 0, 1) := by decide +kernel
theorem dX0_speak_111 : decode cX0_speak 111 = .ok (.getfield 21, 3) := by decide +kernel
theorem dX0_speak_114 : decode cX0_speak 114 = .ok (.iload 4, 2) := by decide +kernel
theorem dX0_speak_116 : decode cX0_speak 116 = .ok (.iaload, 1) := by decide +kernel
theorem dX0_speak_117 : decode cX0_speak 117 = .ok (.iconst 1, 1) := by decide +kernel
theorem dX0_speak_118 : decode cX0_speak 118 = .ok (.isub, 1) := by decide +kernel
theorem dX0_speak_119 : decode cX0_speak 119 = .ok (.iconst 0, 1) := by decide +kernel
theorem dX0_speak_120 : decode cX0_speak 120 = .ok (.invokestatic 151, 3) := by decide +kernel
theorem dX0_speak_123 : decode cX0_speak 123 = .ok (.iastore, 1) := by decide +kernel
theorem dX0_speak_124 : decode cX0_speak 124 = .ok (.iinc 4 1, 3) := by decide +kernel
theorem dX0_speak_127 : decode cX0_speak 127 = .ok (.goto (-102), 3) := by decide +kernel
theorem dX0_speak_130 : decode cX0_speak 130 = .ok (.return_, 1) := by decide +kernel
theorem dX0_lookFromTheRoad_0 : decode cX0_lookFromTheRoad 0 = .ok (.aload_n 0, 1) := by decide +kernel
theorem dX0_lookFromTheRoad_1 : decode cX0_lookFromTheRoad 1 = .ok (.invokevirtual 72, 3) := by decide +kernel
theorem dX0_lookFromTheRoad_4 : decode cX0_lookFromTheRoad 4 = .ok (.bipush 8, 2) := by decide +kernel
theorem dX0_lookFromTheRoad_6 : decode cX0_lookFromTheRoad 6 = .ok (.irem, 1) := by decide +kernel
theorem dX0_lookFromTheRoad_7 : decode cX0_lookFromTheRoad 7 = .ok (.istore_n 1, 1) := by decide +kernel
theorem dX0_lookFromTheRoad_8 : decode cX0_lookFromTheRoad 8 = .ok (.aload_n 0, 1) := by decide +kernel
theorem dX0_lookFromTheRoad_9 : decode cX0_lookFromTheRoad 9 = .ok (.invokevirtual 72, 3) := by decide +kernel
theorem dX0_lookFromTheRoad_12 : decode cX0_lookFromTheRoad 12 = .ok (.bipush 6, 2) := by decide +kernel
theorem dX0_lookFromTheRoad_14 : decode cX0_lookFromTheRoad 14 = .ok (.irem, 1) := by decide +kernel
theorem dX0_lookFromTheRoad_15 : decode cX0_lookFromTheRoad 15 = .ok (.istore_n 2, 1) := by decide +kernel
theorem dX0_lookFromTheRoad_16 : decode cX0_lookFromTheRoad 16 = .ok (.aload_n 0, 1) := by decide +kernel
theorem dX0_lookFromTheRoad_17 : decode cX0_lookFromTheRoad 17 = .ok (.getfield 27, 3) := by decide +kernel
theorem dX0_lookFromTheRoad_20 : decode cX0_lookFromTheRoad 20 = .ok (.iload_n 2, 1) := by decide +kernel
theorem dX0_lookFromTheRoad_21 : decode cX0_lookFromTheRoad 21 = .ok (.iaload, 1) := by decide +kernel
theorem dX0_lookFromTheRoad_22 : decode cX0_lookFromTheRoad 22 = .ok (.ifCond .ne 4, 3) := by decide +kernel
theorem dX0_lookFromTheRoad_25 : decode cX0_lookFromTheRoad 25 = .ok (.return_, 1) := by decide +kernel
theorem dX0_lookFromTheRoad_26 : decode cX0_lookFromTheRoad 26 = .ok (.iconst 0, 1) := by decide +kernel
theorem dX0_lookFromTheRoad_27 : decode cX0_lookFromTheRoad 27 = .ok (.istore_n 3, 1) := by decide +kernel
theorem dX0_lookFromTheRoad_28 : decode cX0_lookFromTheRoad 28 = .ok (.iload_n 3, 1) := by decide +kernel
theorem dX0_lookFromTheRoad_29 : decode cX0_lookFromTheRoad 29 = .ok (.aload_n 0, 1) := by decide +kernel
theorem dX0_lookFromTheRoad_30 : decode cX0_lookFromTheRoad 30 = .ok (.getfield 44, 3) := by decide +kernel
theorem dX0_lookFromTheRoad_33 : decode cX0_lookFromTheRoad 33 = .ok (.if_icmp .ge 31, 3) := by decide +kernel
theorem dX0_lookFromTheRoad_36 : decode cX0_lookFromTheRoad 36 = .ok (.aload_n 0, 1) := by decide +kernel
theorem dX0_lookFromTheRoad_37 : decode cX0_lookFromTheRoad 37 = .ok (.getfield 15, 3) := by decide +kernel
theorem dX0_lookFromTheRoad_40 : decode cX0_lookFromTheRoad 40 = .ok (.iload_n 3, 1) := by decide +kernel
theorem dX0_lookFromTheRoad_41 : decode cX0_lookFromTheRoad 41 = .ok (.iaload, 1) := by decide +kernel
theorem dX0_lookFromTheRoad_42 : decode cX0_lookFromTheRoad 42 = .ok (.iload_n 1, 1) := by decide +kernel
theorem dX0_lookFromTheRoad_43 : decode cX0_lookFromTheRoad 43 = .ok (.if_icmp .ne 15, 3) := by decide +kernel
theorem dX0_lookFromTheRoad_46 : decode cX0_lookFromTheRoad 46 = .ok (.aload_n 0, 1) := by decide +kernel
theorem dX0_lookFromTheRoad_47 : decode cX0_lookFromTheRoad 47 = .ok (.iload_n 3, 1) := by decide +kernel
theorem dX0_lookFromTheRoad_48 : decode cX0_lookFromTheRoad 48 = .ok (.iload_n 2, 1) := by decide +kernel
theorem dX0_lookFromTheRoad_49 : decode cX0_lookFromTheRoad 49 = .ok (.aload_n 0, 1) := by decide +kernel
theorem dX0_lookFromTheRoad_50 : decode cX0_lookFromTheRoad 50 = .ok (.getfield 27, 3) := by decide +kernel
theorem dX0_lookFromTheRoad_53 : decode cX0_lookFromTheRoad 53 = .ok (.iload_n 2, 1) := by decide +kernel
theorem dX0_lookFromTheRoad_54 : decode cX0_lookFromTheRoad 54 = .ok (.iaload, 1) := by decide +kernel
theorem dX0_lookFromTheRoad_55 : decode cX0_lookFromTheRoad 55 = .ok (.invokevirtual 68, 3) := by decide +kernel
theorem dX0_lookFromTheRoad_58 : decode cX0_lookFromTheRoad 58 = .ok (.iinc 3 1, 3) := by decide +kernel
theorem dX0_lookFromTheRoad_61 : decode cX0_lookFromTheRoad 61 = .ok (.goto (-33), 3) := by decide +kernel
theorem dX0_lookFromTheRoad_64 : decode cX0_lookFromTheRoad 64 = .ok (.return_, 1) := by decide +kernel
theorem dX0_grow_0 : decode cX0_grow 0 = .ok (.aload_n 0, 1) := by decide +kernel
theorem dX0_grow_1 : decode cX0_grow 1 = .ok (.getfield 62, 3) := by decide +kernel
theorem dX0_grow_4 : decode cX0_grow 4 = .ok (.bipush 6, 2) := by decide +kernel
theorem dX0_grow_6 : decode cX0_grow 6 = .ok (.irem, 1) := by decide +kernel
theorem dX0_grow_7 : decode cX0_grow 7 = .ok (.istore_n 1, 1) := by decide +kernel
theorem dX0_grow_8 : decode cX0_grow 8 = .ok (.aload_n 0, 1) := by decide +kernel
theorem dX0_grow_9 : decode cX0_grow 9 = .ok (.iload_n 1, 1) := by decide +kernel
theorem dX0_grow_10 : decode cX0_grow 10 = .ok (.invokevirtual 100, 3) := by decide +kernel
theorem dX0_grow_13 : decode cX0_grow 13 = .ok (.istore_n 2, 1) := by decide +kernel
theorem dX0_grow_14 : decode cX0_grow 14 = .ok (.aload_n 0, 1) := by decide +kernel
theorem dX0_grow_15 : decode cX0_grow 15 = .ok (.getfield 30, 3) := by decide +kernel
theorem dX0_grow_18 : decode cX0_grow 18 = .ok (.iload_n 1, 1) := by decide +kernel
theorem dX0_grow_19 : decode cX0_grow 19 = .ok (.iload_n 2, 1) := by decide +kernel
theorem dX0_grow_20 : decode cX0_grow 20 = .ok (.iastore, 1) := by decide +kernel
theorem dX0_grow_21 : decode cX0_grow 21 = .ok (.aload_n 0, 1) := by decide +kernel
theorem dX0_grow_22 : decode cX0_grow 22 = .ok (.dup, 1) := by decide +kernel
theorem dX0_grow_23 : decode cX0_grow 23 = .ok (.getfield 53, 3) := by decide +kernel
theorem dX0_grow_26 : decode cX0_grow 26 = .ok (.aload_n 0, 1) := by decide +kernel
theorem dX0_grow_27 : decode cX0_grow 27 = .ok (.iload_n 1, 1) := by decide +kernel
theorem dX0_grow_28 : decode cX0_grow 28 = .ok (.iload_n 2, 1) := by decide +kernel
theorem dX0_grow_29 : decode cX0_grow 29 = .ok (.invokevirtual 97, 3) := by decide +kernel
theorem dX0_grow_32 : decode cX0_grow 32 = .ok (.iadd, 1) := by decide +kernel
theorem dX0_grow_33 : decode cX0_grow 33 = .ok (.putfield 53, 3) := by decide +kernel
theorem dX0_grow_36 : decode cX0_grow 36 = .ok (.iload_n 2, 1) := by decide +kernel
theorem dX0_grow_37 : decode cX0_grow 37 = .ok (.aload_n 0, 1) := by decide +kernel
theorem dX0_grow_38 : decode cX0_grow 38 = .ok (.getfield 27, 3) := by decide +kernel
theorem dX0_grow_41 : decode cX0_grow 41 = .ok (.iload_n 1, 1) := by decide +kernel
theorem dX0_grow_42 : decode cX0_grow 42 = .ok (.iaload, 1) := by decide +kernel
theorem dX0_grow_43 : decode cX0_grow 43 = .ok (.if_icmp .eq 13, 3) := by decide +kernel
theorem dX0_grow_46 : decode cX0_grow 46 = .ok (.aload_n 0, 1) := by decide +kernel
theorem dX0_grow_47 : decode cX0_grow 47 = .ok (.dup, 1) := by decide +kernel
theorem dX0_grow_48 : decode cX0_grow 48 = .ok (.getfield 56, 3) := by decide +kernel
theorem dX0_grow_51 : decode cX0_grow 51 = .ok (.iconst 1, 1) := by decide +kernel
theorem dX0_grow_52 : decode cX0_grow 52 = .ok (.iadd, 1) := by decide +kernel
theorem dX0_grow_53 : decode cX0_grow 53 = .ok (.putfield 56, 3) := by decide +kernel
theorem dX0_grow_56 : decode cX0_grow 56 = .ok (.return_, 1) := by decide +kernel
theorem dX1_init_0 : decode cX1_init 0 = .ok (.aload_n 0, 1) := by decide +kernel
theorem dX1_init_1 : decode cX1_init 1 = .ok (.invokespecial 3, 3) := by decide +kernel
theorem dX1_init_4 : decode cX1_init 4 = .ok (.aload_n 0, 1) := by decide +kernel
theorem dX1_init_5 : decode cX1_init 5 = .ok (.bipush 14, 2) := by decide +kernel
theorem dX1_init_7 : decode cX1_init 7 = .ok (.anewarray 9, 3) := by decide +kernel
theorem dX1_init_10 : decode cX1_init 10 = .ok (.putfield 11, 3) := by decide +kernel
theorem dX1_init_13 : decode cX1_init 13 = .ok (.aload_n 0, 1) := by decide +kernel
theorem dX1_init_14 : decode cX1_init 14 = .ok (.bipush 6, 2) := by decide +kernel
theorem dX1_init_16 : decode cX1_init 16 = .ok (.newarray .int, 2) := by decide +kernel
theorem dX1_init_18 : decode cX1_init 18 = .ok (.putfield 17, 3) := by decide +kernel
theorem dX1_init_21 : decode cX1_init 21 = .ok (.aload_n 0, 1) := by decide +kernel
theorem dX1_init_22 : decode cX1_init 22 = .ok (.bipush 96, 2) := by decide +kernel
theorem dX1_init_24 : decode cX1_init 24 = .ok (.newarray .int, 2) := by decide +kernel
theorem dX1_init_26 : decode cX1_init 26 = .ok (.putfield 21, 3) := by decide +kernel
theorem dX1_init_29 : decode cX1_init 29 = .ok (.iconst 0, 1) := by decide +kernel
theorem dX1_init_30 : decode cX1_init 30 = .ok (.istore_n 1, 1) := by decide +kernel
theorem dX1_init_31 : decode cX1_init 31 = .ok (.iload_n 1, 1) := by decide +kernel
theorem dX1_init_32 : decode cX1_init 32 = .ok (.bipush 14, 2) := by decide +kernel
theorem dX1_init_34 : decode cX1_init 34 = .ok (.if_icmp .ge 22, 3) := by decide +kernel
theorem dX1_init_37 : decode cX1_init 37 = .ok (.aload_n 0, 1) := by decide +kernel
theorem dX1_init_38 : decode cX1_init 38 = .ok (.getfield 11, 3) := by decide +kernel
theorem dX1_init_41 : decode cX1_init 41 = .ok (.iload_n 1, 1) := by decide +kernel
theorem dX1_init_42 : decode cX1_init 42 = .ok (.new 9, 3) := by decide +kernel
theorem dX1_init_45 : decode cX1_init 45 = .ok (.dup, 1) := by decide +kernel
theorem dX1_init_46 : decode cX1_init 46 = .ok (.invokespecial 24, 3) := by decide +kernel
theorem dX1_init_49 : decode cX1_init 49 = .ok (.aastore, 1) := by decide +kernel
theorem dX1_init_50 : decode cX1_init 50 = .ok (.iinc 1 1, 3) := by decide +kernel
theorem dX1_init_53 : decode cX1_init 53 = .ok (.goto (-22), 3) := by decide +kernel
theorem dX1_init_56 : decode cX1_init 56 = .ok (.return_, 1) := by decide +kernel
theorem dX1_given_0 : decode cX1_given 0 = .ok (.aload_n 0, 1) := by decide +kernel
theorem dX1_given_1 : decode cX1_given 1 = .ok (.getfield 11, 3) := by decide +kernel
theorem dX1_given_4 : decode cX1_given 4 = .ok (.iload_n 1, 1) := by decide +kernel
theorem dX1_given_5 : decode cX1_given 5 = .ok (.aaload, 1) := by decide +kernel
theorem dX1_given_6 : decode cX1_given 6 = .ok (.astore_n 2, 1) := by decide +kernel
theorem dX1_given_7 : decode cX1_given 7 = .ok (.iconst 0, 1) := by decide +kernel
theorem dX1_given_8 : decode cX1_given 8 = .ok (.istore_n 3, 1) := by decide +kernel
theorem dX1_given_9 : decode cX1_given 9 = .ok (.iconst 0, 1) := by decide +kernel
theorem dX1_given_10 : decode cX1_given 10 = .ok (.istore 4, 2) := by decide +kernel
theorem dX1_given_12 : decode cX1_given 12 = .ok (.iload 4, 2) := by decide +kernel
theorem dX1_given_14 : decode cX1_given 14 = .ok (.aload_n 2, 1) := by decide +kernel
theorem dX1_given_15 : decode cX1_given 15 = .ok (.getfield 25, 3) := by decide +kernel
theorem dX1_given_18 : decode cX1_given 18 = .ok (.if_icmp .ge 136, 3) := by decide +kernel
theorem dX1_given_21 : decode cX1_given 21 = .ok (.aload_n 2, 1) := by decide +kernel
theorem dX1_given_22 : decode cX1_given 22 = .ok (.getfield 29, 3) := by decide +kernel
theorem dX1_given_25 : decode cX1_given 25 = .ok (.iload 4, 2) := by decide +kernel
theorem dX1_given_27 : decode cX1_given 27 = .ok (.iaload, 1) := by decide +kernel
theorem dX1_given_28 : decode cX1_given 28 = .ok (.istore 5, 2) := by decide +kernel
theorem dX1_given_30 : decode cX1_given 30 = .ok (.iload 5, 2) := by decide +kernel
theorem dX1_given_32 : decode cX1_given 32 = .ok (.bipush (-6), 2) := by decide +kernel
theorem dX1_given_34 : decode cX1_given 34 = .ok (.if_icmp .lt 40, 3) := by decide +kernel
theorem dX1_given_37 : decode cX1_given 37 = .ok (.iload_n 3, 1) := by decide +kernel
theorem dX1_given_38 : decode cX1_given 38 = .ok (.bipush 96, 2) := by decide +kernel
theorem dX1_given_40 : decode cX1_given 40 = .ok (.if_icmp .ge 108, 3) := by decide +kernel
theorem dX1_given_43 : decode cX1_given 43 = .ok (.aload_n 0, 1) := by decide +kernel
theorem dX1_given_44 : decode cX1_given 44 = .ok (.getfield 21, 3) := by decide +kernel
theorem dX1_given_47 : decode cX1_given 47 = .ok (.iload_n 3, 1) := by decide +kernel
theorem dX1_given_48 : decode cX1_given 48 = .ok (.iload 5, 2) := by decide +kernel
theorem dX1_given_50 : decode cX1_given 50 = .ok (.ifCond .lt 8, 3) := by decide +kernel
theorem dX1_given_53 : decode cX1_given 53 = .ok (.iload 5, 2) := by decide +kernel
theorem dX1_given_55 : decode cX1_given 55 = .ok (.goto 12, 3) := by decide +kernel
theorem dX1_given_58 : decode cX1_given 58 = .ok (.aload_n 0, 1) := by decide +kernel
theorem dX1_given_59 : decode cX1_given 59 = .ok (.getfield 17, 3) := by decide +kernel
theorem dX1_given_62 : decode cX1_given 62 = .ok (.iconst (-1), 1) := by decide +kernel
theorem dX1_given_63 : decode cX1_given 63 = .ok (.iload 5, 2) := by decide +kernel
theorem dX1_given_65 : decode cX1_given 65 = .ok (.isub, 1) := by decide +kernel
theorem dX1_given_66 : decode cX1_given 66 = .ok (.iaload, 1) := by decide +kernel
theorem dX1_given_67 : decode cX1_given 67 = .ok (.iastore, 1) := by decide +kernel
theorem dX1_given_68 : decode cX1_given 68 = .ok (.iinc 3 1, 3) := by decide +kernel
theorem dX1_given_71 : decode cX1_given 71 = .ok (.goto 77, 3) := by decide +kernel
theorem dX1_given_74 : decode cX1_given 74 = .ok (.iload 5, 2) := by decide +kernel
theorem dX1_given_76 : decode cX1_given 76 = .ok (.bipush (-33), 2) := by decide +kernel
theorem dX1_given_78 : decode cX1_given 78 = .ok (.if_icmp .ne 34, 3) := by decide +kernel
theorem dX1_given_81 : decode cX1_given 81 = .ok (.iload_n 3, 1) := by decide +kernel
theorem dX1_given_82 : decode cX1_given 82 = .ok (.ifCond .le 66, 3) := by decide +kernel
theorem dX1_given_85 : decode cX1_given 85 = .ok (.aload_n 0, 1) := by decide +kernel
theorem dX1_given_86 : decode cX1_given 86 = .ok (.getfield 21, 3) := by decide +kernel
theorem dX1_given_89 : decode cX1_given 89 = .ok (.iload_n 3, 1) := by decide +kernel
theorem dX1_given_90 : decode cX1_given 90 = .ok (.iconst 1, 1) := by decide +kernel
theorem dX1_given_91 : decode cX1_given 91 = .ok (.isub, 1) := by decide +kernel
theorem dX1_given_92 : decode cX1_given 92 = .ok (.aload_n 0, 1) := by decide +kernel
theorem dX1_given_93 : decode cX1_given 93 = .ok (.getfield 21, 3) := by decide +kernel
theorem dX1_given_96 : decode cX1_given 96 = .ok (.iload_n 3, 1) := by decide +kernel
theorem dX1_given_97 : decode cX1_given 97 = .ok (.iconst 1, 1) := by decide +kernel
theorem dX1_given_98 : decode cX1_given 98 = .ok (.isub, 1) := by decide +kernel
theorem dX1_given_99 : decode cX1_given 99 = .ok (.iaload, 1) := by decide +kernel
theorem dX1_given_100 : decode cX1_given 100 = .ok (.ifCond .ne 7, 3) := by decide +kernel
theorem dX1_given_103 : decode cX1_given 103 = .ok (.iconst 1, 1) := by decide +kernel
theorem dX1_given_104 : decode cX1_given 104 = .ok (.goto 4, 3) := by decide +kernel
theorem dX1_given_107 : decode cX1_given 107 = .ok (.iconst 0, 1) := by decide +kernel
theorem dX1_given_108 : decode cX1_given 108 = .ok (.iastore, 1) := by decide +kernel
theorem dX1_given_109 : decode cX1_given 109 = .ok (.goto 39, 3) := by decide +kernel
theorem dX1_given_112 : decode cX1_given 112 = .ok (.iload_n 3, 1) := by decide +kernel
theorem dX1_given_113 : decode cX1_given 113 = .ok (.iconst 1, 1) := by decide +kernel
theorem dX1_given_114 : decode cX1_given 114 = .ok (.if_icmp .le 34, 3) := by decide +kernel
theorem dX1_given_117 : decode cX1_given 117 = .ok (.iinc 3 (-1), 3) := by decide +kernel
theorem dX1_given_120 : decode cX1_given 120 = .ok (.aload_n 0, 1) := by decide +kernel
theorem dX1_given_121 : decode cX1_given 121 = .ok (.getfield 21, 3) := by decide +kernel
theorem dX1_given_124 : decode cX1_given 124 = .ok (.iload_n 3, 1) := by decide +kernel
theorem dX1_given_125 : decode cX1_given 125 = .ok (.iconst 1, 1) := by decide +kernel
theorem dX1_given_126 : decode cX1_given 126 = .ok (.isub, 1) := by decide +kernel
theorem dX1_given_127 : decode cX1_given 127 = .ok (.iload 5, 2) := by decide +kernel
theorem dX1_given_129 : decode cX1_given 129 = .ok (.ineg, 1) := by decide +kernel
theorem dX1_given_130 : decode cX1_given 130 = .ok (.aload_n 0, 1) := by decide +kernel
theorem dX1_given_131 : decode cX1_given 131 = .ok (.getfield 21, 3) := by decide +kernel
theorem dX1_given_134 : decode cX1_given 134 = .ok (.iload_n 3, 1) := by decide +kernel
theorem dX1_given_135 : decode cX1_given 135 = .ok (.iconst 1, 1) := by decide +kernel
theorem dX1_given_136 : decode cX1_given 136 = .ok (.isub, 1) := by decide +kernel
theorem dX1_given_137 : decode cX1_given 137 = .ok (.iaload, 1) := by decide +kernel
theorem dX1_given_138 : decode cX1_given 138 = .ok (.aload_n 0, 1) := by decide +kernel
theorem dX1_given_139 : decode cX1_given 139 = .ok (.getfield 21, 3) := by decide +kernel
theorem dX1_given_142 : decode cX1_given 142 = .ok (.iload_n 3, 1) := by decide +kernel
theorem dX1_given_143 : decode cX1_given 143 = .ok (.iaload, 1) := by decide +kernel
theorem dX1_given_144 : decode cX1_given 144 = .ok (.invokestatic 32, 3) := by decide +kernel
theorem dX1_given_147 : decode cX1_given 147 = .ok (.iastore, 1) := by decide +kernel
theorem dX1_given_148 : decode cX1_given 148 = .ok (.iinc 4 1, 3) := by decide +kernel
theorem dX1_given_151 : decode cX1_given 151 = .ok (.goto (-139), 3) := by decide +kernel
theorem dX1_given_154 : decode cX1_given 154 = .ok (.iload_n 3, 1) := by decide +kernel
theorem dX1_given_155 : decode cX1_given 155 = .ok (.ifCond .le 12, 3) := by decide +kernel
theorem dX1_given_158 : decode cX1_given 158 = .ok (.aload_n 0, 1) := by decide +kernel
theorem dX1_given_159 : decode cX1_given 159 = .ok (.getfield 21, 3) := by decide +kernel
theorem dX1_given_162 : decode cX1_given 162 = .ok (.iconst 0, 1) := by decide +kernel
theorem dX1_given_163 : decode cX1_given 163 = .ok (.iaload, 1) := by decide +kernel
theorem dX1_given_164 : decode cX1_given 164 = .ok (.goto 4, 3) := by decide +kernel
theorem dX1_given_167 : decode cX1_given 167 = .ok (.iconst 0, 1) := by decide +kernel
theorem dX1_given_168 : decode cX1_given 168 = .ok (.ireturn, 1) := by decide +kernel
theorem dX1_joined_0 : decode cX1_joined 0 = .ok (.iload_n 0, 1) := by decide +kernel
theorem dX1_joined_1 : decode cX1_joined 1 = .ok (.tableswitch 186 38 62 #[172, 186, 186, 186, 115, 131, 186, 135, 186, 119, 186, 186, 186, 186, 186, 186, 186, 186, 186, 186, 186, 186, 139, 150, 161], 115) := by decide +kernel
theorem dX1_joined_116 : decode cX1_joined 116 = .ok (.iload_n 1, 1) := by decide +kernel
theorem dX1_joined_117 : decode cX1_joined 117 = .ok (.iload_n 2, 1) := by decide +kernel
theorem dX1_joined_118 : decode cX1_joined 118 = .ok (.imul, 1) := by decide +kernel
theorem dX1_joined_119 : decode cX1_joined 119 = .ok (.ireturn, 1) := by decide +kernel
theorem dX1_joined_120 : decode cX1_joined 120 = .ok (.iload_n 2, 1) := by decide +kernel
theorem dX1_joined_121 : decode cX1_joined 121 = .ok (.ifCond .ne 7, 3) := by decide +kernel
theorem dX1_joined_124 : decode cX1_joined 124 = .ok (.iconst 0, 1) := by decide +kernel
theorem dX1_joined_125 : decode cX1_joined 125 = .ok (.goto 6, 3) := by decide +kernel
theorem dX1_joined_128 : decode cX1_joined 128 = .ok (.iload_n 1, 1) := by decide +kernel
theorem dX1_joined_129 : decode cX1_joined 129 = .ok (.iload_n 2, 1) := by decide +kernel
theorem dX1_joined_130 : decode cX1_joined 130 = .ok (.idiv, 1) := by decide +kernel
theorem dX1_joined_131 : decode cX1_joined 131 = .ok (.ireturn, 1) := by decide +kernel
theorem dX1_joined_132 : decode cX1_joined 132 = .ok (.iload_n 1, 1) := by decide +kernel
theorem dX1_joined_133 : decode cX1_joined 133 = .ok (.iload_n 2, 1) := by decide +kernel
theorem dX1_joined_134 : decode cX1_joined 134 = .ok (.iadd, 1) := by decide +kernel
theorem dX1_joined_135 : decode cX1_joined 135 = .ok (.ireturn, 1) := by decide +kernel
theorem dX1_joined_136 : decode cX1_joined 136 = .ok (.iload_n 1, 1) := by decide +kernel
theorem dX1_joined_137 : decode cX1_joined 137 = .ok (.iload_n 2, 1) := by decide +kernel
theorem dX1_joined_138 : decode cX1_joined 138 = .ok (.isub, 1) := by decide +kernel
theorem dX1_joined_139 : decode cX1_joined 139 = .ok (.ireturn, 1) := by decide +kernel
theorem dX1_joined_140 : decode cX1_joined 140 = .ok (.iload_n 1, 1) := by decide +kernel
theorem dX1_joined_141 : decode cX1_joined 141 = .ok (.iload_n 2, 1) := by decide +kernel
theorem dX1_joined_142 : decode cX1_joined 142 = .ok (.if_icmp .ge 7, 3) := by decide +kernel
theorem dX1_joined_145 : decode cX1_joined 145 = .ok (.iconst 1, 1) := by decide +kernel
theorem dX1_joined_146 : decode cX1_joined 146 = .ok (.goto 4, 3) := by decide +kernel
theorem dX1_joined_149 : decode cX1_joined 149 = .ok (.iconst 0, 1) := by decide +kernel
theorem dX1_joined_150 : decode cX1_joined 150 = .ok (.ireturn, 1) := by decide +kernel
theorem dX1_joined_151 : decode cX1_joined 151 = .ok (.iload_n 1, 1) := by decide +kernel
theorem dX1_joined_152 : decode cX1_joined 152 = .ok (.iload_n 2, 1) := by decide +kernel
theorem dX1_joined_153 : decode cX1_joined 153 = .ok (.if_icmp .ne 7, 3) := by decide +kernel
theorem dX1_joined_156 : decode cX1_joined 156 = .ok (.iconst 1, 1) := by decide +kernel
theorem dX1_joined_157 : decode cX1_joined 157 = .ok (.goto 4, 3) := by decide +kernel
theorem dX1_joined_160 : decode cX1_joined 160 = .ok (.iconst 0, 1) := by decide +kernel
theorem dX1_joined_161 : decode cX1_joined 161 = .ok (.ireturn, 1) := by decide +kernel
theorem dX1_joined_162 : decode cX1_joined 162 = .ok (.iload_n 1, 1) := by decide +kernel
theorem dX1_joined_163 : decode cX1_joined 163 = .ok (.iload_n 2, 1) := by decide +kernel
theorem dX1_joined_164 : decode cX1_joined 164 = .ok (.if_icmp .le 7, 3) := by decide +kernel
theorem dX1_joined_167 : decode cX1_joined 167 = .ok (.iconst 1, 1) := by decide +kernel
theorem dX1_joined_168 : decode cX1_joined 168 = .ok (.goto 4, 3) := by decide +kernel
theorem dX1_joined_171 : decode cX1_joined 171 = .ok (.iconst 0, 1) := by decide +kernel
theorem dX1_joined_172 : decode cX1_joined 172 = .ok (.ireturn, 1) := by decide +kernel
theorem dX1_joined_173 : decode cX1_joined 173 = .ok (.iload_n 1, 1) := by decide +kernel
theorem dX1_joined_174 : decode cX1_joined 174 = .ok (.ifCond .eq 11, 3) := by decide +kernel
theorem dX1_joined_177 : decode cX1_joined 177 = .ok (.iload_n 2, 1) := by decide +kernel
theorem dX1_joined_178 : decode cX1_joined 178 = .ok (.ifCond .eq 7, 3) := by decide +kernel
theorem dX1_joined_181 : decode cX1_joined 181 = .ok (.iconst 1, 1) := by decide +kernel
theorem dX1_joined_182 : decode cX1_joined 182 = .ok (.goto 4, 3) := by decide +kernel
theorem dX1_joined_185 : decode cX1_joined 185 = .ok (.iconst 0, 1) := by decide +kernel
theorem dX1_joined_186 : decode cX1_joined 186 = .ok (.ireturn, 1) := by decide +kernel
theorem dX1_joined_187 : decode cX1_joined 187 = .ok (.iload_n 1, 1) := by decide +kernel
theorem dX1_joined_188 : decode cX1_joined 188 = .ok (.ifCond .ne 7, 3) := by decide +kernel
theorem dX1_joined_191 : decode cX1_joined 191 = .ok (.iload_n 2, 1) := by decide +kernel
theorem dX1_joined_192 : decode cX1_joined 192 = .ok (.ifCond .eq 7, 3) := by decide +kernel
theorem dX1_joined_195 : decode cX1_joined 195 = .ok (.iconst 1, 1) := by decide +kernel
theorem dX1_joined_196 : decode cX1_joined 196 = .ok (.goto 4, 3) := by decide +kernel
theorem dX1_joined_199 : decode cX1_joined 199 = .ok (.iconst 0, 1) := by decide +kernel
theorem dX1_joined_200 : decode cX1_joined 200 = .ok (.ireturn, 1) := by decide +kernel
theorem dX2_init_0 : decode cX2_init 0 = .ok (.aload_n 0, 1) := by decide +kernel
theorem dX2_init_1 : decode cX2_init 1 = .ok (.invokespecial 3, 3) := by decide +kernel
theorem dX2_init_4 : decode cX2_init 4 = .ok (.aload_n 0, 1) := by decide +kernel
theorem dX2_init_5 : decode cX2_init 5 = .ok (.bipush 96, 2) := by decide +kernel
theorem dX2_init_7 : decode cX2_init 7 = .ok (.newarray .byte, 2) := by decide +kernel
theorem dX2_init_9 : decode cX2_init 9 = .ok (.putfield 9, 3) := by decide +kernel
theorem dX2_init_12 : decode cX2_init 12 = .ok (.aload_n 0, 1) := by decide +kernel
theorem dX2_init_13 : decode cX2_init 13 = .ok (.new 15, 3) := by decide +kernel
theorem dX2_init_16 : decode cX2_init 16 = .ok (.dup, 1) := by decide +kernel
theorem dX2_init_17 : decode cX2_init 17 = .ok (.invokespecial 17, 3) := by decide +kernel
theorem dX2_init_20 : decode cX2_init 20 = .ok (.putfield 18, 3) := by decide +kernel
theorem dX2_init_23 : decode cX2_init 23 = .ok (.aload_n 0, 1) := by decide +kernel
theorem dX2_init_24 : decode cX2_init 24 = .ok (.bipush 96, 2) := by decide +kernel
theorem dX2_init_26 : decode cX2_init 26 = .ok (.newarray .int, 2) := by decide +kernel
theorem dX2_init_28 : decode cX2_init 28 = .ok (.putfield 22, 3) := by decide +kernel
theorem dX2_init_31 : decode cX2_init 31 = .ok (.return_, 1) := by decide +kernel
theorem dX2_take_0 : decode cX2_take 0 = .ok (.bipush 24, 2) := by decide +kernel
theorem dX2_take_2 : decode cX2_take 2 = .ok (.istore_n 2, 1) := by decide +kernel
theorem dX2_take_3 : decode cX2_take 3 = .ok (.iload_n 2, 1) := by decide +kernel
theorem dX2_take_4 : decode cX2_take 4 = .ok (.ifCond .lt 41, 3) := by decide +kernel
theorem dX2_take_7 : decode cX2_take 7 = .ok (.aload_n 0, 1) := by decide +kernel
theorem dX2_take_8 : decode cX2_take 8 = .ok (.getfield 26, 3) := by decide +kernel
theorem dX2_take_11 : decode cX2_take 11 = .ok (.bipush 96, 2) := by decide +kernel
theorem dX2_take_13 : decode cX2_take 13 = .ok (.if_icmp .ge 32, 3) := by decide +kernel
theorem dX2_take_16 : decode cX2_take 16 = .ok (.aload_n 0, 1) := by decide +kernel
theorem dX2_take_17 : decode cX2_take 17 = .ok (.getfield 9, 3) := by decide +kernel
theorem dX2_take_20 : decode cX2_take 20 = .ok (.aload_n 0, 1) := by decide +kernel
theorem dX2_take_21 : decode cX2_take 21 = .ok (.getfield 26, 3) := by decide +kernel
theorem dX2_take_24 : decode cX2_take 24 = .ok (.iload_n 1, 1) := by decide +kernel
theorem dX2_take_25 : decode cX2_take 25 = .ok (.iload_n 2, 1) := by decide +kernel
theorem dX2_take_26 : decode cX2_take 26 = .ok (.ishr, 1) := by decide +kernel
theorem dX2_take_27 : decode cX2_take 27 = .ok (.i2b, 1) := by decide +kernel
theorem dX2_take_28 : decode cX2_take 28 = .ok (.bastore, 1) := by decide +kernel
theorem dX2_take_29 : decode cX2_take 29 = .ok (.aload_n 0, 1) := by decide +kernel
theorem dX2_take_30 : decode cX2_take 30 = .ok (.dup, 1) := by decide +kernel
theorem dX2_take_31 : decode cX2_take 31 = .ok (.getfield 26, 3) := by decide +kernel
theorem dX2_take_34 : decode cX2_take 34 = .ok (.iconst 1, 1) := by decide +kernel
theorem dX2_take_35 : decode cX2_take 35 = .ok (.iadd, 1) := by decide +kernel
theorem dX2_take_36 : decode cX2_take 36 = .ok (.putfield 26, 3) := by decide +kernel
theorem dX2_take_39 : decode cX2_take 39 = .ok (.iinc 2 (-8), 3) := by decide +kernel
theorem dX2_take_42 : decode cX2_take 42 = .ok (.goto (-39), 3) := by decide +kernel
theorem dX2_take_45 : decode cX2_take 45 = .ok (.return_, 1) := by decide +kernel
theorem dX2_faultOnTape_0 : decode cX2_faultOnTape 0 = .ok (.aload_n 0, 1) := by decide +kernel
theorem dX2_faultOnTape_1 : decode cX2_faultOnTape 1 = .ok (.iconst 0, 1) := by decide +kernel
theorem dX2_faultOnTape_2 : decode cX2_faultOnTape 2 = .ok (.putfield 30, 3) := by decide +kernel
theorem dX2_faultOnTape_5 : decode cX2_faultOnTape 5 = .ok (.aload_n 0, 1) := by decide +kernel
theorem dX2_faultOnTape_6 : decode cX2_faultOnTape 6 = .ok (.iconst (-1), 1) := by decide +kernel
theorem dX2_faultOnTape_7 : decode cX2_faultOnTape 7 = .ok (.putfield 33, 3) := by decide +kernel
theorem dX2_faultOnTape_10 : decode cX2_faultOnTape 10 = .ok (.aload_n 0, 1) := by decide +kernel
theorem dX2_faultOnTape_11 : decode cX2_faultOnTape 11 = .ok (.iconst 0, 1) := by decide +kernel
theorem dX2_faultOnTape_12 : decode cX2_faultOnTape 12 = .ok (.putfield 36, 3) := by decide +kernel
theorem dX2_faultOnTape_15 : decode cX2_faultOnTape 15 = .ok (.aload_n 0, 1) := by decide +kernel
theorem dX2_faultOnTape_16 : decode cX2_faultOnTape 16 = .ok (.iconst 0, 1) := by decide +kernel
theorem dX2_faultOnTape_17 : decode cX2_faultOnTape 17 = .ok (.putfield 39, 3) := by decide +kernel
theorem dX2_faultOnTape_20 : decode cX2_faultOnTape 20 = .ok (.aload_n 0, 1) := by decide +kernel
theorem dX2_faultOnTape_21 : decode cX2_faultOnTape 21 = .ok (.iconst 0, 1) := by decide +kernel
theorem dX2_faultOnTape_22 : decode cX2_faultOnTape 22 = .ok (.putfield 42, 3) := by decide +kernel
theorem dX2_faultOnTape_25 : decode cX2_faultOnTape 25 = .ok (.aload_n 0, 1) := by decide +kernel
theorem dX2_faultOnTape_26 : decode cX2_faultOnTape 26 = .ok (.invokevirtual 45, 3) := by decide +kernel
theorem dX2_faultOnTape_29 : decode cX2_faultOnTape 29 = .ok (.aload_n 0, 1) := by decide +kernel
theorem dX2_faultOnTape_30 : decode cX2_faultOnTape 30 = .ok (.invokevirtual 48, 3) := by decide +kernel
theorem dX2_faultOnTape_33 : decode cX2_faultOnTape 33 = .ok (.istore_n 1, 1) := by decide +kernel
theorem dX2_faultOnTape_34 : decode cX2_faultOnTape 34 = .ok (.iload_n 1, 1) := by decide +kernel
theorem dX2_faultOnTape_35 : decode cX2_faultOnTape 35 = .ok (.ifCond .ge 8, 3) := by decide +kernel
theorem dX2_faultOnTape_38 : decode cX2_faultOnTape 38 = .ok (.aload_n 0, 1) := by decide +kernel
theorem dX2_faultOnTape_39 : decode cX2_faultOnTape 39 = .ok (.getfield 52, 3) := by decide +kernel
theorem dX2_faultOnTape_42 : decode cX2_faultOnTape 42 = .ok (.ireturn, 1) := by decide +kernel
theorem dX2_faultOnTape_43 : decode cX2_faultOnTape 43 = .ok (.aload_n 0, 1) := by decide +kernel
theorem dX2_faultOnTape_44 : decode cX2_faultOnTape 44 = .ok (.getfield 18, 3) := by decide +kernel
theorem dX2_faultOnTape_47 : decode cX2_faultOnTape 47 = .ok (.iload_n 1, 1) := by decide +kernel
theorem dX2_faultOnTape_48 : decode cX2_faultOnTape 48 = .ok (.invokevirtual 55, 3) := by decide +kernel
theorem dX2_faultOnTape_51 : decode cX2_faultOnTape 51 = .ok (.iconst 1, 1) := by decide +kernel
theorem dX2_faultOnTape_52 : decode cX2_faultOnTape 52 = .ok (.istore_n 2, 1) := by decide +kernel
theorem dX2_faultOnTape_53 : decode cX2_faultOnTape 53 = .ok (.iconst 0, 1) := by decide +kernel
theorem dX2_faultOnTape_54 : decode cX2_faultOnTape 54 = .ok (.istore_n 3, 1) := by decide +kernel
theorem dX2_faultOnTape_55 : decode cX2_faultOnTape 55 = .ok (.iload_n 3, 1) := by decide +kernel
theorem dX2_faultOnTape_56 : decode cX2_faultOnTape 56 = .ok (.bipush 96, 2) := by decide +kernel
theorem dX2_faultOnTape_58 : decode cX2_faultOnTape 58 = .ok (.if_icmp .ge 101, 3) := by decide +kernel
theorem dX2_faultOnTape_61 : decode cX2_faultOnTape 61 = .ok (.aload_n 0, 1) := by decide +kernel
theorem dX2_faultOnTape_62 : decode cX2_faultOnTape 62 = .ok (.invokevirtual 45, 3) := by decide +kernel
theorem dX2_faultOnTape_65 : decode cX2_faultOnTape 65 = .ok (.aload_n 0, 1) := by decide +kernel
theorem dX2_faultOnTape_66 : decode cX2_faultOnTape 66 = .ok (.getfield 59, 3) := by decide +kernel
theorem dX2_faultOnTape_69 : decode cX2_faultOnTape 69 = .ok (.sipush 1000, 3) := by decide +kernel
theorem dX2_faultOnTape_72 : decode cX2_faultOnTape 72 = .ok (.if_icmp .ne 20, 3) := by decide +kernel
theorem dX2_faultOnTape_75 : decode cX2_faultOnTape 75 = .ok (.aload_n 0, 1) := by decide +kernel
theorem dX2_faultOnTape_76 : decode cX2_faultOnTape 76 = .ok (.iload_n 2, 1) := by decide +kernel
theorem dX2_faultOnTape_77 : decode cX2_faultOnTape 77 = .ok (.invokevirtual 62, 3) := by decide +kernel
theorem dX2_faultOnTape_80 : decode cX2_faultOnTape 80 = .ok (.ifCond .eq 7, 3) := by decide +kernel
theorem dX2_faultOnTape_83 : decode cX2_faultOnTape 83 = .ok (.iconst (-1), 1) := by decide +kernel
theorem dX2_faultOnTape_84 : decode cX2_faultOnTape 84 = .ok (.goto 7, 3) := by decide +kernel
theorem dX2_faultOnTape_87 : decode cX2_faultOnTape 87 = .ok (.aload_n 0, 1) := by decide +kernel
theorem dX2_faultOnTape_88 : decode cX2_faultOnTape 88 = .ok (.getfield 52, 3) := by decide +kernel
theorem dX2_faultOnTape_91 : decode cX2_faultOnTape 91 = .ok (.ireturn, 1) := by decide +kernel
theorem dX2_faultOnTape_92 : decode cX2_faultOnTape 92 = .ok (.iload_n 2, 1) := by decide +kernel
theorem dX2_faultOnTape_93 : decode cX2_faultOnTape 93 = .ok (.ifCond .eq 10, 3) := by decide +kernel
theorem dX2_faultOnTape_96 : decode cX2_faultOnTape 96 = .ok (.aload_n 0, 1) := by decide +kernel
theorem dX2_faultOnTape_97 : decode cX2_faultOnTape 97 = .ok (.invokevirtual 66, 3) := by decide +kernel
theorem dX2_faultOnTape_100 : decode cX2_faultOnTape 100 = .ok (.goto 7, 3) := by decide +kernel
theorem dX2_faultOnTape_103 : decode cX2_faultOnTape 103 = .ok (.aload_n 0, 1) := by decide +kernel
theorem dX2_faultOnTape_104 : decode cX2_faultOnTape 104 = .ok (.invokevirtual 70, 3) := by decide +kernel
theorem dX2_faultOnTape_107 : decode cX2_faultOnTape 107 = .ok (.istore 4, 2) := by decide +kernel
theorem dX2_faultOnTape_109 : decode cX2_faultOnTape 109 = .ok (.iload 4, 2) := by decide +kernel
theorem dX2_faultOnTape_111 : decode cX2_faultOnTape 111 = .ok (.ifCond .ne 8, 3) := by decide +kernel
theorem dX2_faultOnTape_114 : decode cX2_faultOnTape 114 = .ok (.aload_n 0, 1) := by decide +kernel
theorem dX2_faultOnTape_115 : decode cX2_faultOnTape 115 = .ok (.getfield 52, 3) := by decide +kernel
theorem dX2_faultOnTape_118 : decode cX2_faultOnTape 118 = .ok (.ireturn, 1) := by decide +kernel
theorem dX2_faultOnTape_119 : decode cX2_faultOnTape 119 = .ok (.aload_n 0, 1) := by decide +kernel
theorem dX2_faultOnTape_120 : decode cX2_faultOnTape 120 = .ok (.getfield 59, 3) := by decide +kernel
theorem dX2_faultOnTape_123 : decode cX2_faultOnTape 123 = .ok (.bipush 40, 2) := by decide +kernel
theorem dX2_faultOnTape_125 : decode cX2_faultOnTape 125 = .ok (.if_icmp .eq 22, 3) := by decide +kernel
theorem dX2_faultOnTape_128 : decode cX2_faultOnTape 128 = .ok (.aload_n 0, 1) := by decide +kernel
theorem dX2_faultOnTape_129 : decode cX2_faultOnTape 129 = .ok (.getfield 59, 3) := by decide +kernel
theorem dX2_faultOnTape_132 : decode cX2_faultOnTape 132 = .ok (.bipush 33, 2) := by decide +kernel
theorem dX2_faultOnTape_134 : decode cX2_faultOnTape 134 = .ok (.if_icmp .eq 13, 3) := by decide +kernel
theorem dX2_faultOnTape_137 : decode cX2_faultOnTape 137 = .ok (.aload_n 0, 1) := by decide +kernel
theorem dX2_faultOnTape_138 : decode cX2_faultOnTape 138 = .ok (.getfield 59, 3) := by decide +kernel
theorem dX2_faultOnTape_141 : decode cX2_faultOnTape 141 = .ok (.invokestatic 73, 3) := by decide +kernel
theorem dX2_faultOnTape_144 : decode cX2_faultOnTape 144 = .ok (.ifCond .eq 7, 3) := by decide +kernel
theorem dX2_faultOnTape_147 : decode cX2_faultOnTape 147 = .ok (.iconst 1, 1) := by decide +kernel
theorem dX2_faultOnTape_148 : decode cX2_faultOnTape 148 = .ok (.goto 4, 3) := by decide +kernel
theorem dX2_faultOnTape_151 : decode cX2_faultOnTape 151 = .ok (.iconst 0, 1) := by decide +kernel
theorem dX2_faultOnTape_152 : decode cX2_faultOnTape 152 = .ok (.istore_n 2, 1) := by decide +kernel
theorem dX2_faultOnTape_153 : decode cX2_faultOnTape 153 = .ok (.iinc 3 1, 3) := by decide +kernel
theorem dX2_faultOnTape_156 : decode cX2_faultOnTape 156 = .ok (.goto (-101), 3) := by decide +kernel
theorem dX2_faultOnTape_159 : decode cX2_faultOnTape 159 = .ok (.aload_n 0, 1) := by decide +kernel
theorem dX2_faultOnTape_160 : decode cX2_faultOnTape 160 = .ok (.getfield 26, 3) := by decide +kernel
theorem dX2_faultOnTape_163 : decode cX2_faultOnTape 163 = .ok (.ireturn, 1) := by decide +kernel
theorem dX2_finished_0 : decode cX2_finished 0 = .ok (.iload_n 1, 1) := by decide +kernel
theorem dX2_finished_1 : decode cX2_finished 1 = .ok (.ifCond .ne 10, 3) := by decide +kernel
theorem dX2_finished_4 : decode cX2_finished 4 = .ok (.aload_n 0, 1) := by decide +kernel
theorem dX2_finished_5 : decode cX2_finished 5 = .ok (.getfield 39, 3) := by decide +kernel
theorem dX2_finished_8 : decode cX2_finished 8 = .ok (.ifCond .le 5, 3) := by decide +kernel
theorem dX2_finished_11 : decode cX2_finished 11 = .ok (.iconst 0, 1) := by decide +kernel
theorem dX2_finished_12 : decode cX2_finished 12 = .ok (.ireturn, 1) := by decide +kernel
theorem dX2_finished_13 : decode cX2_finished 13 = .ok (.aload_n 0, 1) := by decide +kernel
theorem dX2_finished_14 : decode cX2_finished 14 = .ok (.iconst 0, 1) := by decide +kernel
theorem dX2_finished_15 : decode cX2_finished 15 = .ok (.invokevirtual 77, 3) := by decide +kernel
theorem dX2_finished_18 : decode cX2_finished 18 = .ok (.iconst 1, 1) := by decide +kernel
theorem dX2_finished_19 : decode cX2_finished 19 = .ok (.ireturn, 1) := by decide +kernel
theorem dX2_next_0 : decode cX2_next 0 = .ok (.aload_n 0, 1) := by decide +kernel
theorem dX2_next_1 : decode cX2_next 1 = .ok (.getfield 30, 3) := by decide +kernel
theorem dX2_next_4 : decode cX2_next 4 = .ok (.aload_n 0, 1) := by decide +kernel
theorem dX2_next_5 : decode cX2_next 5 = .ok (.getfield 26, 3) := by decide +kernel
theorem dX2_next_8 : decode cX2_next 8 = .ok (.if_icmp .ge 30, 3) := by decide +kernel
theorem dX2_next_11 : decode cX2_next 11 = .ok (.aload_n 0, 1) := by decide +kernel
theorem dX2_next_12 : decode cX2_next 12 = .ok (.getfield 9, 3) := by decide +kernel
theorem dX2_next_15 : decode cX2_next 15 = .ok (.aload_n 0, 1) := by decide +kernel
theorem dX2_next_16 : decode cX2_next 16 = .ok (.getfield 30, 3) := by decide +kernel
theorem dX2_next_19 : decode cX2_next 19 = .ok (.baload, 1) := by decide +kernel
theorem dX2_next_20 : decode cX2_next 20 = .ok (.bipush 32, 2) := by decide +kernel
theorem dX2_next_22 : decode cX2_next 22 = .ok (.if_icmp .ne 16, 3) := by decide +kernel
theorem dX2_next_25 : decode cX2_next 25 = .ok (.aload_n 0, 1) := by decide +kernel
theorem dX2_next_26 : decode cX2_next 26 = .ok (.dup, 1) := by decide +kernel
theorem dX2_next_27 : decode cX2_next 27 = .ok (.getfield 30, 3) := by decide +kernel
theorem dX2_next_30 : decode cX2_next 30 = .ok (.iconst 1, 1) := by decide +kernel
theorem dX2_next_31 : decode cX2_next 31 = .ok (.iadd, 1) := by decide +kernel
theorem dX2_next_32 : decode cX2_next 32 = .ok (.putfield 30, 3) := by decide +kernel
theorem dX2_next_35 : decode cX2_next 35 = .ok (.goto (-35), 3) := by decide +kernel
theorem dX2_next_38 : decode cX2_next 38 = .ok (.aload_n 0, 1) := by decide +kernel
theorem dX2_next_39 : decode cX2_next 39 = .ok (.aload_n 0, 1) := by decide +kernel
theorem dX2_next_40 : decode cX2_next 40 = .ok (.getfield 30, 3) := by decide +kernel
theorem dX2_next_43 : decode cX2_next 43 = .ok (.putfield 52, 3) := by decide +kernel
theorem dX2_next_46 : decode cX2_next 46 = .ok (.aload_n 0, 1) := by decide +kernel
theorem dX2_next_47 : decode cX2_next 47 = .ok (.getfield 30, 3) := by decide +kernel
theorem dX2_next_50 : decode cX2_next 50 = .ok (.aload_n 0, 1) := by decide +kernel
theorem dX2_next_51 : decode cX2_next 51 = .ok (.getfield 26, 3) := by decide +kernel
theorem dX2_next_54 : decode cX2_next 54 = .ok (.if_icmp .lt 11, 3) := by decide +kernel
theorem dX2_next_57 : decode cX2_next 57 = .ok (.aload_n 0, 1) := by decide +kernel
theorem dX2_next_58 : decode cX2_next 58 = .ok (.sipush 1000, 3) := by decide +kernel
theorem dX2_next_61 : decode cX2_next 61 = .ok (.putfield 59, 3) := by decide +kernel
theorem dX2_next_64 : decode cX2_next 64 = .ok (.return_, 1) := by decide +kernel
theorem dX2_next_65 : decode cX2_next 65 = .ok (.aload_n 0, 1) := by decide +kernel
theorem dX2_next_66 : decode cX2_next 66 = .ok (.getfield 9, 3) := by decide +kernel
theorem dX2_next_69 : decode cX2_next 69 = .ok (.aload_n 0, 1) := by decide +kernel
theorem dX2_next_70 : decode cX2_next 70 = .ok (.getfield 30, 3) := by decide +kernel
theorem dX2_next_73 : decode cX2_next 73 = .ok (.baload, 1) := by decide +kernel
theorem dX2_next_74 : decode cX2_next 74 = .ok (.invokestatic 80, 3) := by decide +kernel
theorem dX2_next_77 : decode cX2_next 77 = .ok (.ifCond .eq 49, 3) := by decide +kernel
theorem dX2_next_80 : decode cX2_next 80 = .ok (.aload_n 0, 1) := by decide +kernel
theorem dX2_next_81 : decode cX2_next 81 = .ok (.sipush 1001, 3) := by decide +kernel
theorem dX2_next_84 : decode cX2_next 84 = .ok (.putfield 59, 3) := by decide +kernel
theorem dX2_next_87 : decode cX2_next 87 = .ok (.aload_n 0, 1) := by decide +kernel
theorem dX2_next_88 : decode cX2_next 88 = .ok (.getfield 30, 3) := by decide +kernel
theorem dX2_next_91 : decode cX2_next 91 = .ok (.aload_n 0, 1) := by decide +kernel
theorem dX2_next_92 : decode cX2_next 92 = .ok (.getfield 26, 3) := by decide +kernel
theorem dX2_next_95 : decode cX2_next 95 = .ok (.if_icmp .ge 116, 3) := by decide +kernel
theorem dX2_next_98 : decode cX2_next 98 = .ok (.aload_n 0, 1) := by decide +kernel
theorem dX2_next_99 : decode cX2_next 99 = .ok (.getfield 9, 3) := by decide +kernel
theorem dX2_next_102 : decode cX2_next 102 = .ok (.aload_n 0, 1) := by decide +kernel
theorem dX2_next_103 : decode cX2_next 103 = .ok (.getfield 30, 3) := by decide +kernel
theorem dX2_next_106 : decode cX2_next 106 = .ok (.baload, 1) := by decide +kernel
theorem dX2_next_107 : decode cX2_next 107 = .ok (.invokestatic 80, 3) := by decide +kernel
theorem dX2_next_110 : decode cX2_next 110 = .ok (.ifCond .eq 101, 3) := by decide +kernel
theorem dX2_next_113 : decode cX2_next 113 = .ok (.aload_n 0, 1) := by decide +kernel
theorem dX2_next_114 : decode cX2_next 114 = .ok (.dup, 1) := by decide +kernel
theorem dX2_next_115 : decode cX2_next 115 = .ok (.getfield 30, 3) := by decide +kernel
theorem dX2_next_118 : decode cX2_next 118 = .ok (.iconst 1, 1) := by decide +kernel
theorem dX2_next_119 : decode cX2_next 119 = .ok (.iadd, 1) := by decide +kernel
theorem dX2_next_120 : decode cX2_next 120 = .ok (.putfield 30, 3) := by decide +kernel
theorem dX2_next_123 : decode cX2_next 123 = .ok (.goto (-36), 3) := by decide +kernel
theorem dX2_next_126 : decode cX2_next 126 = .ok (.aload_n 0, 1) := by decide +kernel
theorem dX2_next_127 : decode cX2_next 127 = .ok (.getfield 9, 3) := by decide +kernel
theorem dX2_next_130 : decode cX2_next 130 = .ok (.aload_n 0, 1) := by decide +kernel
theorem dX2_next_131 : decode cX2_next 131 = .ok (.getfield 30, 3) := by decide +kernel
theorem dX2_next_134 : decode cX2_next 134 = .ok (.baload, 1) := by decide +kernel
theorem dX2_next_135 : decode cX2_next 135 = .ok (.invokestatic 84, 3) := by decide +kernel
theorem dX2_next_138 : decode cX2_next 138 = .ok (.ifCond .eq 49, 3) := by decide +kernel
theorem dX2_next_141 : decode cX2_next 141 = .ok (.aload_n 0, 1) := by decide +kernel
theorem dX2_next_142 : decode cX2_next 142 = .ok (.sipush 1002, 3) := by decide +kernel
theorem dX2_next_145 : decode cX2_next 145 = .ok (.putfield 59, 3) := by decide +kernel
theorem dX2_next_148 : decode cX2_next 148 = .ok (.aload_n 0, 1) := by decide +kernel
theorem dX2_next_149 : decode cX2_next 149 = .ok (.getfield 30, 3) := by decide +kernel
theorem dX2_next_152 : decode cX2_next 152 = .ok (.aload_n 0, 1) := by decide +kernel
theorem dX2_next_153 : decode cX2_next 153 = .ok (.getfield 26, 3) := by decide +kernel
theorem dX2_next_156 : decode cX2_next 156 = .ok (.if_icmp .ge 55, 3) := by decide +kernel
theorem dX2_next_159 : decode cX2_next 159 = .ok (.aload_n 0, 1) := by decide +kernel
theorem dX2_next_160 : decode cX2_next 160 = .ok (.getfield 9, 3) := by decide +kernel
theorem dX2_next_163 : decode cX2_next 163 = .ok (.aload_n 0, 1) := by decide +kernel
theorem dX2_next_164 : decode cX2_next 164 = .ok (.getfield 30, 3) := by decide +kernel
theorem dX2_next_167 : decode cX2_next 167 = .ok (.baload, 1) := by decide +kernel
theorem dX2_next_168 : decode cX2_next 168 = .ok (.invokestatic 84, 3) := by decide +kernel
theorem dX2_next_171 : decode cX2_next 171 = .ok (.ifCond .eq 40, 3) := by decide +kernel
theorem dX2_next_174 : decode cX2_next 174 = .ok (.aload_n 0, 1) := by decide +kernel
theorem dX2_next_175 : decode cX2_next 175 = .ok (.dup, 1) := by decide +kernel
theorem dX2_next_176 : decode cX2_next 176 = .ok (.getfield 30, 3) := by decide +kernel
theorem dX2_next_179 : decode cX2_next 179 = .ok (.iconst 1, 1) := by decide +kernel
theorem dX2_next_180 : decode cX2_next 180 = .ok (.iadd, 1) := by decide +kernel
theorem dX2_next_181 : decode cX2_next 181 = .ok (.putfield 30, 3) := by decide +kernel
theorem dX2_next_184 : decode cX2_next 184 = .ok (.goto (-36), 3) := by decide +kernel
theorem dX2_next_187 : decode cX2_next 187 = .ok (.aload_n 0, 1) := by decide +kernel
theorem dX2_next_188 : decode cX2_next 188 = .ok (.aload_n 0, 1) := by decide +kernel
theorem dX2_next_189 : decode cX2_next 189 = .ok (.getfield 9, 3) := by decide +kernel
theorem dX2_next_192 : decode cX2_next 192 = .ok (.aload_n 0, 1) := by decide +kernel
theorem dX2_next_193 : decode cX2_next 193 = .ok (.getfield 30, 3) := by decide +kernel
theorem dX2_next_196 : decode cX2_next 196 = .ok (.baload, 1) := by decide +kernel
theorem dX2_next_197 : decode cX2_next 197 = .ok (.putfield 59, 3) := by decide +kernel
theorem dX2_next_200 : decode cX2_next 200 = .ok (.aload_n 0, 1) := by decide +kernel
theorem dX2_next_201 : decode cX2_next 201 = .ok (.dup, 1) := by decide +kernel
theorem dX2_next_202 : decode cX2_next 202 = .ok (.getfield 30, 3) := by decide +kernel
theorem dX2_next_205 : decode cX2_next 205 = .ok (.iconst 1, 1) := by decide +kernel
theorem dX2_next_206 : decode cX2_next 206 = .ok (.iadd, 1) := by decide +kernel
theorem dX2_next_207 : decode cX2_next 207 = .ok (.putfield 30, 3) := by decide +kernel
theorem dX2_next_210 : decode cX2_next 210 = .ok (.return_, 1) := by decide +kernel
theorem dX2_next_211 : decode cX2_next 211 = .ok (.aload_n 0, 1) := by decide +kernel
theorem dX2_next_212 : decode cX2_next 212 = .ok (.getfield 52, 3) := by decide +kernel
theorem dX2_next_215 : decode cX2_next 215 = .ok (.aload_n 0, 1) := by decide +kernel
theorem dX2_next_216 : decode cX2_next 216 = .ok (.getfield 33, 3) := by decide +kernel
theorem dX2_next_219 : decode cX2_next 219 = .ok (.if_icmp .ne 7, 3) := by decide +kernel
theorem dX2_next_222 : decode cX2_next 222 = .ok (.iconst 1, 1) := by decide +kernel
theorem dX2_next_223 : decode cX2_next 223 = .ok (.goto 4, 3) := by decide +kernel
theorem dX2_next_226 : decode cX2_next 226 = .ok (.iconst 0, 1) := by decide +kernel
theorem dX2_next_227 : decode cX2_next 227 = .ok (.istore_n 1, 1) := by decide +kernel
theorem dX2_next_228 : decode cX2_next 228 = .ok (.aload_n 0, 1) := by decide +kernel
theorem dX2_next_229 : decode cX2_next 229 = .ok (.aload_n 0, 1) := by decide +kernel
theorem dX2_next_230 : decode cX2_next 230 = .ok (.getfield 30, 3) := by decide +kernel
theorem dX2_next_233 : decode cX2_next 233 = .ok (.putfield 33, 3) := by decide +kernel
theorem dX2_next_236 : decode cX2_next 236 = .ok (.iload_n 1, 1) := by decide +kernel
theorem dX2_next_237 : decode cX2_next 237 = .ok (.ifCond .eq 10, 3) := by decide +kernel
theorem dX2_next_240 : decode cX2_next 240 = .ok (.aload_n 0, 1) := by decide +kernel
theorem dX2_next_241 : decode cX2_next 241 = .ok (.sipush 1003, 3) := by decide +kernel
theorem dX2_next_244 : decode cX2_next 244 = .ok (.putfield 59, 3) := by decide +kernel
theorem dX2_next_247 : decode cX2_next 247 = .ok (.return_, 1) := by decide +kernel
theorem dX2_isLetter_0 : decode cX2_isLetter 0 = .ok (.iload_n 0, 1) := by decide +kernel
theorem dX2_isLetter_1 : decode cX2_isLetter 1 = .ok (.bipush 97, 2) := by decide +kernel
theorem dX2_isLetter_3 : decode cX2_isLetter 3 = .ok (.if_icmp .lt 13, 3) := by decide +kernel
theorem dX2_isLetter_6 : decode cX2_isLetter 6 = .ok (.iload_n 0, 1) := by decide +kernel
theorem dX2_isLetter_7 : decode cX2_isLetter 7 = .ok (.bipush 122, 2) := by decide +kernel
theorem dX2_isLetter_9 : decode cX2_isLetter 9 = .ok (.if_icmp .gt 7, 3) := by decide +kernel
theorem dX2_isLetter_12 : decode cX2_isLetter 12 = .ok (.iconst 1, 1) := by decide +kernel
theorem dX2_isLetter_13 : decode cX2_isLetter 13 = .ok (.goto 4, 3) := by decide +kernel
theorem dX2_isLetter_16 : decode cX2_isLetter 16 = .ok (.iconst 0, 1) := by decide +kernel
theorem dX2_isLetter_17 : decode cX2_isLetter 17 = .ok (.ireturn, 1) := by decide +kernel
theorem dX2_isDigit_0 : decode cX2_isDigit 0 = .ok (.iload_n 0, 1) := by decide +kernel
theorem dX2_isDigit_1 : decode cX2_isDigit 1 = .ok (.bipush 48, 2) := by decide +kernel
theorem dX2_isDigit_3 : decode cX2_isDigit 3 = .ok (.if_icmp .lt 13, 3) := by decide +kernel
theorem dX2_isDigit_6 : decode cX2_isDigit 6 = .ok (.iload_n 0, 1) := by decide +kernel
theorem dX2_isDigit_7 : decode cX2_isDigit 7 = .ok (.bipush 57, 2) := by decide +kernel
theorem dX2_isDigit_9 : decode cX2_isDigit 9 = .ok (.if_icmp .gt 7, 3) := by decide +kernel
theorem dX2_isDigit_12 : decode cX2_isDigit 12 = .ok (.iconst 1, 1) := by decide +kernel
theorem dX2_isDigit_13 : decode cX2_isDigit 13 = .ok (.goto 4, 3) := by decide +kernel
theorem dX2_isDigit_16 : decode cX2_isDigit 16 = .ok (.iconst 0, 1) := by decide +kernel
theorem dX2_isDigit_17 : decode cX2_isDigit 17 = .ok (.ireturn, 1) := by decide +kernel
theorem dX2_keyRead_0 : decode cX2_keyRead 0 = .ok (.aload_n 0, 1) := by decide +kernel
theorem dX2_keyRead_1 : decode cX2_keyRead 1 = .ok (.getfield 59, 3) := by decide +kernel
theorem dX2_keyRead_4 : decode cX2_keyRead 4 = .ok (.sipush 1001, 3) := by decide +kernel
theorem dX2_keyRead_7 : decode cX2_keyRead 7 = .ok (.if_icmp .eq 5, 3) := by decide +kernel
theorem dX2_keyRead_10 : decode cX2_keyRead 10 = .ok (.iconst (-1), 1) := by decide +kernel
theorem dX2_keyRead_11 : decode cX2_keyRead 11 = .ok (.ireturn, 1) := by decide +kernel
theorem dX2_keyRead_12 : decode cX2_keyRead 12 = .ok (.aload_n 0, 1) := by decide +kernel
theorem dX2_keyRead_13 : decode cX2_keyRead 13 = .ok (.ldc 87, 2) := by decide +kernel
theorem dX2_keyRead_15 : decode cX2_keyRead 15 = .ok (.invokevirtual 89, 3) := by decide +kernel
theorem dX2_keyRead_18 : decode cX2_keyRead 18 = .ok (.ifCond .eq 5, 3) := by decide +kernel
theorem dX2_keyRead_21 : decode cX2_keyRead 21 = .ok (.iconst 0, 1) := by decide +kernel
theorem dX2_keyRead_22 : decode cX2_keyRead 22 = .ok (.ireturn, 1) := by decide +kernel
theorem dX2_keyRead_23 : decode cX2_keyRead 23 = .ok (.aload_n 0, 1) := by decide +kernel
theorem dX2_keyRead_24 : decode cX2_keyRead 24 = .ok (.ldc 93, 2) := by decide +kernel
theorem dX2_keyRead_26 : decode cX2_keyRead 26 = .ok (.invokevirtual 89, 3) := by decide +kernel
theorem dX2_keyRead_29 : decode cX2_keyRead 29 = .ok (.ifCond .eq 5, 3) := by decide +kernel
theorem dX2_keyRead_32 : decode cX2_keyRead 32 = .ok (.iconst 1, 1) := by decide +kernel
theorem dX2_keyRead_33 : decode cX2_keyRead 33 = .ok (.ireturn, 1) := by decide +kernel
theorem dX2_keyRead_34 : decode cX2_keyRead 34 = .ok (.aload_n 0, 1) := by decide +kernel
theorem dX2_keyRead_35 : decode cX2_keyRead 35 = .ok (.ldc 95, 2) := by decide +kernel
theorem dX2_keyRead_37 : decode cX2_keyRead 37 = .ok (.invokevirtual 89, 3) := by decide +kernel
theorem dX2_keyRead_40 : decode cX2_keyRead 40 = .ok (.ifCond .eq 7, 3) := by decide +kernel
theorem dX2_keyRead_43 : decode cX2_keyRead 43 = .ok (.iconst 2, 1) := by decide +kernel
theorem dX2_keyRead_44 : decode cX2_keyRead 44 = .ok (.goto 4, 3) := by decide +kernel
theorem dX2_keyRead_47 : decode cX2_keyRead 47 = .ok (.iconst (-1), 1) := by decide +kernel
theorem dX2_keyRead_48 : decode cX2_keyRead 48 = .ok (.ireturn, 1) := by decide +kernel
theorem dX2_isWord_0 : decode cX2_isWord 0 = .ok (.aload_n 0, 1) := by decide +kernel
theorem dX2_isWord_1 : decode cX2_isWord 1 = .ok (.getfield 30, 3) := by decide +kernel
theorem dX2_isWord_4 : decode cX2_isWord 4 = .ok (.aload_n 0, 1) := by decide +kernel
theorem dX2_isWord_5 : decode cX2_isWord 5 = .ok (.getfield 52, 3) := by decide +kernel
theorem dX2_isWord_8 : decode cX2_isWord 8 = .ok (.isub, 1) := by decide +kernel
theorem dX2_isWord_9 : decode cX2_isWord 9 = .ok (.aload_n 1, 1) := by decide +kernel
theorem dX2_isWord_10 : decode cX2_isWord 10 = .ok (.invokevirtual 97, 3) := by decide +kernel
theorem dX2_isWord_13 : decode cX2_isWord 13 = .ok (.if_icmp .eq 5, 3) := by decide +kernel
theorem dX2_isWord_16 : decode cX2_isWord 16 = .ok (.iconst 0, 1) := by decide +kernel
theorem dX2_isWord_17 : decode cX2_isWord 17 = .ok (.ireturn, 1) := by decide +kernel
theorem dX2_isWord_18 : decode cX2_isWord 18 = .ok (.iconst 0, 1) := by decide +kernel
theorem dX2_isWord_19 : decode cX2_isWord 19 = .ok (.istore_n 2, 1) := by decide +kernel
theorem dX2_isWord_20 : decode cX2_isWord 20 = .ok (.iload_n 2, 1) := by decide +kernel
theorem dX2_isWord_21 : decode cX2_isWord 21 = .ok (.aload_n 1, 1) := by decide +kernel
theorem dX2_isWord_22 : decode cX2_isWord 22 = .ok (.invokevirtual 97, 3) := by decide +kernel
theorem dX2_isWord_25 : decode cX2_isWord 25 = .ok (.if_icmp .ge 30, 3) := by decide +kernel
theorem dX2_isWord_28 : decode cX2_isWord 28 = .ok (.aload_n 0, 1) := by decide +kernel
theorem dX2_isWord_29 : decode cX2_isWord 29 = .ok (.getfield 9, 3) := by decide +kernel
theorem dX2_isWord_32 : decode cX2_isWord 32 = .ok (.aload_n 0, 1) := by decide +kernel
theorem dX2_isWord_33 : decode cX2_isWord 33 = .ok (.getfield 52, 3) := by decide +kernel
theorem dX2_isWord_36 : decode cX2_isWord 36 = .ok (.iload_n 2, 1) := by decide +kernel
theorem dX2_isWord_37 : decode cX2_isWord 37 = .ok (.iadd, 1) := by decide +kernel
theorem dX2_isWord_38 : decode cX2_isWord 38 = .ok (.baload, 1) := by decide +kernel
theorem dX2_isWord_39 : decode cX2_isWord 39 = .ok (.aload_n 1, 1) := by decide +kernel
theorem dX2_isWord_40 : decode cX2_isWord 40 = .ok (.iload_n 2, 1) := by decide +kernel
theorem dX2_isWord_41 : decode cX2_isWord 41 = .ok (.invokevirtual 102, 3) := by decide +kernel
theorem dX2_isWord_44 : decode cX2_isWord 44 = .ok (.if_icmp .eq 5, 3) := by decide +kernel
theorem dX2_isWord_47 : decode cX2_isWord 47 = .ok (.iconst 0, 1) := by decide +kernel
theorem dX2_isWord_48 : decode cX2_isWord 48 = .ok (.ireturn, 1) := by decide +kernel
theorem dX2_isWord_49 : decode cX2_isWord 49 = .ok (.iinc 2 1, 3) := by decide +kernel
theorem dX2_isWord_52 : decode cX2_isWord 52 = .ok (.goto (-32), 3) := by decide +kernel
theorem dX2_isWord_55 : decode cX2_isWord 55 = .ok (.iconst 1, 1) := by decide +kernel
theorem dX2_isWord_56 : decode cX2_isWord 56 = .ok (.ireturn, 1) := by decide +kernel
theorem dX2_takesPiece_0 : decode cX2_takesPiece 0 = .ok (.aload_n 0, 1) := by decide +kernel
theorem dX2_takesPiece_1 : decode cX2_takesPiece 1 = .ok (.getfield 59, 3) := by decide +kernel
theorem dX2_takesPiece_4 : decode cX2_takesPiece 4 = .ok (.lookupswitch 116 #[(33, 54), (40, 85), (1001, 49), (1002, 44)], 44) := by decide +kernel
theorem dX2_takesPiece_48 : decode cX2_takesPiece 48 = .ok (.aload_n 0, 1) := by decide +kernel
theorem dX2_takesPiece_49 : decode cX2_takesPiece 49 = .ok (.invokevirtual 106, 3) := by decide +kernel
theorem dX2_takesPiece_52 : decode cX2_takesPiece 52 = .ok (.ireturn, 1) := by decide +kernel
theorem dX2_takesPiece_53 : decode cX2_takesPiece 53 = .ok (.aload_n 0, 1) := by decide +kernel
theorem dX2_takesPiece_54 : decode cX2_takesPiece 54 = .ok (.invokevirtual 109, 3) := by decide +kernel
theorem dX2_takesPiece_57 : decode cX2_takesPiece 57 = .ok (.ireturn, 1) := by decide +kernel
theorem dX2_takesPiece_58 : decode cX2_takesPiece 58 = .ok (.aload_n 0, 1) := by decide +kernel
theorem dX2_takesPiece_59 : decode cX2_takesPiece 59 = .ok (.dup, 1) := by decide +kernel
theorem dX2_takesPiece_60 : decode cX2_takesPiece 60 = .ok (.getfield 42, 3) := by decide +kernel
theorem dX2_takesPiece_63 : decode cX2_takesPiece 63 = .ok (.iconst 1, 1) := by decide +kernel
theorem dX2_takesPiece_64 : decode cX2_takesPiece 64 = .ok (.iadd, 1) := by decide +kernel
theorem dX2_takesPiece_65 : decode cX2_takesPiece 65 = .ok (.putfield 42, 3) := by decide +kernel
theorem dX2_takesPiece_68 : decode cX2_takesPiece 68 = .ok (.aload_n 0, 1) := by decide +kernel
theorem dX2_takesPiece_69 : decode cX2_takesPiece 69 = .ok (.bipush 33, 2) := by decide +kernel
theorem dX2_takesPiece_71 : decode cX2_takesPiece 71 = .ok (.invokevirtual 112, 3) := by decide +kernel
theorem dX2_takesPiece_74 : decode cX2_takesPiece 74 = .ok (.aload_n 0, 1) := by decide +kernel
theorem dX2_takesPiece_75 : decode cX2_takesPiece 75 = .ok (.getfield 42, 3) := by decide +kernel
theorem dX2_takesPiece_78 : decode cX2_takesPiece 78 = .ok (.bipush 8, 2) := by decide +kernel
theorem dX2_takesPiece_80 : decode cX2_takesPiece 80 = .ok (.if_icmp .gt 7, 3) := by decide +kernel
theorem dX2_takesPiece_83 : decode cX2_takesPiece 83 = .ok (.iconst 1, 1) := by decide +kernel
theorem dX2_takesPiece_84 : decode cX2_takesPiece 84 = .ok (.goto 4, 3) := by decide +kernel
theorem dX2_takesPiece_87 : decode cX2_takesPiece 87 = .ok (.iconst 0, 1) := by decide +kernel
theorem dX2_takesPiece_88 : decode cX2_takesPiece 88 = .ok (.ireturn, 1) := by decide +kernel
theorem dX2_takesPiece_89 : decode cX2_takesPiece 89 = .ok (.aload_n 0, 1) := by decide +kernel
theorem dX2_takesPiece_90 : decode cX2_takesPiece 90 = .ok (.dup, 1) := by decide +kernel
theorem dX2_takesPiece_91 : decode cX2_takesPiece 91 = .ok (.getfield 39, 3) := by decide +kernel
theorem dX2_takesPiece_94 : decode cX2_takesPiece 94 = .ok (.iconst 1, 1) := by decide +kernel
theorem dX2_takesPiece_95 : decode cX2_takesPiece 95 = .ok (.iadd, 1) := by decide +kernel
theorem dX2_takesPiece_96 : decode cX2_takesPiece 96 = .ok (.putfield 39, 3) := by decide +kernel
theorem dX2_takesPiece_99 : decode cX2_takesPiece 99 = .ok (.aload_n 0, 1) := by decide +kernel
theorem dX2_takesPiece_100 : decode cX2_takesPiece 100 = .ok (.bipush 40, 2) := by decide +kernel
theorem dX2_takesPiece_102 : decode cX2_takesPiece 102 = .ok (.invokevirtual 112, 3) := by decide +kernel
theorem dX2_takesPiece_105 : decode cX2_takesPiece 105 = .ok (.aload_n 0, 1) := by decide +kernel
theorem dX2_takesPiece_106 : decode cX2_takesPiece 106 = .ok (.getfield 39, 3) := by decide +kernel
theorem dX2_takesPiece_109 : decode cX2_takesPiece 109 = .ok (.bipush 8, 2) := by decide +kernel
theorem dX2_takesPiece_111 : decode cX2_takesPiece 111 = .ok (.if_icmp .gt 7, 3) := by decide +kernel
theorem dX2_takesPiece_114 : decode cX2_takesPiece 114 = .ok (.iconst 1, 1) := by decide +kernel
theorem dX2_takesPiece_115 : decode cX2_takesPiece 115 = .ok (.goto 4, 3) := by decide +kernel
theorem dX2_takesPiece_118 : decode cX2_takesPiece 118 = .ok (.iconst 0, 1) := by decide +kernel
theorem dX2_takesPiece_119 : decode cX2_takesPiece 119 = .ok (.ireturn, 1) := by decide +kernel
theorem dX2_takesPiece_120 : decode cX2_takesPiece 120 = .ok (.iconst 0, 1) := by decide +kernel
theorem dX2_takesPiece_121 : decode cX2_takesPiece 121 = .ok (.ireturn, 1) := by decide +kernel
theorem dX2_takesNumber_0 : decode cX2_takesNumber 0 = .ok (.aload_n 0, 1) := by decide +kernel
theorem dX2_takesNumber_1 : decode cX2_takesNumber 1 = .ok (.getfield 30, 3) := by decide +kernel
theorem dX2_takesNumber_4 : decode cX2_takesNumber 4 = .ok (.aload_n 0, 1) := by decide +kernel
theorem dX2_takesNumber_5 : decode cX2_takesNumber 5 = .ok (.getfield 52, 3) := by decide +kernel
theorem dX2_takesNumber_8 : decode cX2_takesNumber 8 = .ok (.isub, 1) := by decide +kernel
theorem dX2_takesNumber_9 : decode cX2_takesNumber 9 = .ok (.iconst 4, 1) := by decide +kernel
theorem dX2_takesNumber_10 : decode cX2_takesNumber 10 = .ok (.if_icmp .le 5, 3) := by decide +kernel
theorem dX2_takesNumber_13 : decode cX2_takesNumber 13 = .ok (.iconst 0, 1) := by decide +kernel
theorem dX2_takesNumber_14 : decode cX2_takesNumber 14 = .ok (.ireturn, 1) := by decide +kernel
theorem dX2_takesNumber_15 : decode cX2_takesNumber 15 = .ok (.iconst 0, 1) := by decide +kernel
theorem dX2_takesNumber_16 : decode cX2_takesNumber 16 = .ok (.istore_n 1, 1) := by decide +kernel
theorem dX2_takesNumber_17 : decode cX2_takesNumber 17 = .ok (.aload_n 0, 1) := by decide +kernel
theorem dX2_takesNumber_18 : decode cX2_takesNumber 18 = .ok (.getfield 52, 3) := by decide +kernel
theorem dX2_takesNumber_21 : decode cX2_takesNumber 21 = .ok (.istore_n 2, 1) := by decide +kernel
theorem dX2_takesNumber_22 : decode cX2_takesNumber 22 = .ok (.iload_n 2, 1) := by decide +kernel
theorem dX2_takesNumber_23 : decode cX2_takesNumber 23 = .ok (.aload_n 0, 1) := by decide +kernel
theorem dX2_takesNumber_24 : decode cX2_takesNumber 24 = .ok (.getfield 30, 3) := by decide +kernel
theorem dX2_takesNumber_27 : decode cX2_takesNumber 27 = .ok (.if_icmp .ge 24, 3) := by decide +kernel
theorem dX2_takesNumber_30 : decode cX2_takesNumber 30 = .ok (.iload_n 1, 1) := by decide +kernel
theorem dX2_takesNumber_31 : decode cX2_takesNumber 31 = .ok (.bipush 10, 2) := by decide +kernel
theorem dX2_takesNumber_33 : decode cX2_takesNumber 33 = .ok (.imul, 1) := by decide +kernel
theorem dX2_takesNumber_34 : decode cX2_takesNumber 34 = .ok (.aload_n 0, 1) := by decide +kernel
theorem dX2_takesNumber_35 : decode cX2_takesNumber 35 = .ok (.getfield 9, 3) := by decide +kernel
theorem dX2_takesNumber_38 : decode cX2_takesNumber 38 = .ok (.iload_n 2, 1) := by decide +kernel
theorem dX2_takesNumber_39 : decode cX2_takesNumber 39 = .ok (.baload, 1) := by decide +kernel
theorem dX2_takesNumber_40 : decode cX2_takesNumber 40 = .ok (.iadd, 1) := by decide +kernel
theorem dX2_takesNumber_41 : decode cX2_takesNumber 41 = .ok (.bipush 48, 2) := by decide +kernel
theorem dX2_takesNumber_43 : decode cX2_takesNumber 43 = .ok (.isub, 1) := by decide +kernel
theorem dX2_takesNumber_44 : decode cX2_takesNumber 44 = .ok (.istore_n 1, 1) := by decide +kernel
theorem dX2_takesNumber_45 : decode cX2_takesNumber 45 = .ok (.iinc 2 1, 3) := by decide +kernel
theorem dX2_takesNumber_48 : decode cX2_takesNumber 48 = .ok (.goto (-26), 3) := by decide +kernel
theorem dX2_takesNumber_51 : decode cX2_takesNumber 51 = .ok (.aload_n 0, 1) := by decide +kernel
theorem dX2_takesNumber_52 : decode cX2_takesNumber 52 = .ok (.getfield 18, 3) := by decide +kernel
theorem dX2_takesNumber_55 : decode cX2_takesNumber 55 = .ok (.iload_n 1, 1) := by decide +kernel
theorem dX2_takesNumber_56 : decode cX2_takesNumber 56 = .ok (.invokevirtual 115, 3) := by decide +kernel
theorem dX2_takesNumber_59 : decode cX2_takesNumber 59 = .ok (.aload_n 0, 1) := by decide +kernel
theorem dX2_takesNumber_60 : decode cX2_takesNumber 60 = .ok (.invokevirtual 118, 3) := by decide +kernel
theorem dX2_takesNumber_63 : decode cX2_takesNumber 63 = .ok (.iconst 1, 1) := by decide +kernel
theorem dX2_takesNumber_64 : decode cX2_takesNumber 64 = .ok (.ireturn, 1) := by decide +kernel
theorem dX2_takesName_0 : decode cX2_takesName 0 = .ok (.aload_n 0, 1) := by decide +kernel
theorem dX2_takesName_1 : decode cX2_takesName 1 = .ok (.getfield 30, 3) := by decide +kernel
theorem dX2_takesName_4 : decode cX2_takesName 4 = .ok (.aload_n 0, 1) := by decide +kernel
theorem dX2_takesName_5 : decode cX2_takesName 5 = .ok (.getfield 52, 3) := by decide +kernel
theorem dX2_takesName_8 : decode cX2_takesName 8 = .ok (.isub, 1) := by decide +kernel
theorem dX2_takesName_9 : decode cX2_takesName 9 = .ok (.iconst 1, 1) := by decide +kernel
theorem dX2_takesName_10 : decode cX2_takesName 10 = .ok (.if_icmp .ne 29, 3) := by decide +kernel
theorem dX2_takesName_13 : decode cX2_takesName 13 = .ok (.aload_n 0, 1) := by decide +kernel
theorem dX2_takesName_14 : decode cX2_takesName 14 = .ok (.getfield 18, 3) := by decide +kernel
theorem dX2_takesName_17 : decode cX2_takesName 17 = .ok (.getfield 121, 3) := by decide +kernel
theorem dX2_takesName_20 : decode cX2_takesName 20 = .ok (.invokestatic 124, 3) := by decide +kernel
theorem dX2_takesName_23 : decode cX2_takesName 23 = .ok (.aload_n 0, 1) := by decide +kernel
theorem dX2_takesName_24 : decode cX2_takesName 24 = .ok (.getfield 9, 3) := by decide +kernel
theorem dX2_takesName_27 : decode cX2_takesName 27 = .ok (.aload_n 0, 1) := by decide +kernel
theorem dX2_takesName_28 : decode cX2_takesName 28 = .ok (.getfield 52, 3) := by decide +kernel
theorem dX2_takesName_31 : decode cX2_takesName 31 = .ok (.baload, 1) := by decide +kernel
theorem dX2_takesName_32 : decode cX2_takesName 32 = .ok (.i2c, 1) := by decide +kernel
theorem dX2_takesName_33 : decode cX2_takesName 33 = .ok (.invokevirtual 128, 3) := by decide +kernel
theorem dX2_takesName_36 : decode cX2_takesName 36 = .ok (.goto 4, 3) := by decide +kernel
theorem dX2_takesName_39 : decode cX2_takesName 39 = .ok (.iconst (-1), 1) := by decide +kernel
theorem dX2_takesName_40 : decode cX2_takesName 40 = .ok (.istore_n 1, 1) := by decide +kernel
theorem dX2_takesName_41 : decode cX2_takesName 41 = .ok (.iload_n 1, 1) := by decide +kernel
theorem dX2_takesName_42 : decode cX2_takesName 42 = .ok (.ifCond .ge 5, 3) := by decide +kernel
theorem dX2_takesName_45 : decode cX2_takesName 45 = .ok (.iconst 0, 1) := by decide +kernel
theorem dX2_takesName_46 : decode cX2_takesName 46 = .ok (.ireturn, 1) := by decide +kernel
theorem dX2_takesName_47 : decode cX2_takesName 47 = .ok (.aload_n 0, 1) := by decide +kernel
theorem dX2_takesName_48 : decode cX2_takesName 48 = .ok (.getfield 18, 3) := by decide +kernel
theorem dX2_takesName_51 : decode cX2_takesName 51 = .ok (.iconst (-1), 1) := by decide +kernel
theorem dX2_takesName_52 : decode cX2_takesName 52 = .ok (.iload_n 1, 1) := by decide +kernel
theorem dX2_takesName_53 : decode cX2_takesName 53 = .ok (.isub, 1) := by decide +kernel
theorem dX2_takesName_54 : decode cX2_takesName 54 = .ok (.invokevirtual 115, 3) := by decide +kernel
theorem dX2_takesName_57 : decode cX2_takesName 57 = .ok (.aload_n 0, 1) := by decide +kernel
theorem dX2_takesName_58 : decode cX2_takesName 58 = .ok (.invokevirtual 118, 3) := by decide +kernel
theorem dX2_takesName_61 : decode cX2_takesName 61 = .ok (.iconst 1, 1) := by decide +kernel
theorem dX2_takesName_62 : decode cX2_takesName 62 = .ok (.ireturn, 1) := by decide +kernel
theorem dX2_namesOf_0 : decode cX2_namesOf 0 = .ok (.iload_n 0, 1) := by decide +kernel
theorem dX2_namesOf_1 : decode cX2_namesOf 1 = .ok (.lookupswitch 33 #[(0, 27), (1, 30)], 27) := by decide +kernel
theorem dX2_namesOf_28 : decode cX2_namesOf 28 = .ok (.ldc 131, 2) := by decide +kernel
theorem dX2_namesOf_30 : decode cX2_namesOf 30 = .ok (.areturn, 1) := by decide +kernel
theorem dX2_namesOf_31 : decode cX2_namesOf 31 = .ok (.ldc 133, 2) := by decide +kernel
theorem dX2_namesOf_33 : decode cX2_namesOf 33 = .ok (.areturn, 1) := by decide +kernel
theorem dX2_namesOf_34 : decode cX2_namesOf 34 = .ok (.ldc 135, 2) := by decide +kernel
theorem dX2_namesOf_36 : decode cX2_namesOf 36 = .ok (.areturn, 1) := by decide +kernel
theorem dX2_takesSign_0 : decode cX2_takesSign 0 = .ok (.aload_n 0, 1) := by decide +kernel
theorem dX2_takesSign_1 : decode cX2_takesSign 1 = .ok (.getfield 59, 3) := by decide +kernel
theorem dX2_takesSign_4 : decode cX2_takesSign 4 = .ok (.bipush 41, 2) := by decide +kernel
theorem dX2_takesSign_6 : decode cX2_takesSign 6 = .ok (.if_icmp .ne 8, 3) := by decide +kernel
theorem dX2_takesSign_9 : decode cX2_takesSign 9 = .ok (.aload_n 0, 1) := by decide +kernel
theorem dX2_takesSign_10 : decode cX2_takesSign 10 = .ok (.invokevirtual 137, 3) := by decide +kernel
theorem dX2_takesSign_13 : decode cX2_takesSign 13 = .ok (.ireturn, 1) := by decide +kernel
theorem dX2_takesSign_14 : decode cX2_takesSign 14 = .ok (.aload_n 0, 1) := by decide +kernel
theorem dX2_takesSign_15 : decode cX2_takesSign 15 = .ok (.getfield 59, 3) := by decide +kernel
theorem dX2_takesSign_18 : decode cX2_takesSign 18 = .ok (.invokestatic 73, 3) := by decide +kernel
theorem dX2_takesSign_21 : decode cX2_takesSign 21 = .ok (.istore_n 1, 1) := by decide +kernel
theorem dX2_takesSign_22 : decode cX2_takesSign 22 = .ok (.iload_n 1, 1) := by decide +kernel
theorem dX2_takesSign_23 : decode cX2_takesSign 23 = .ok (.ifCond .ne 5, 3) := by decide +kernel
theorem dX2_takesSign_26 : decode cX2_takesSign 26 = .ok (.iconst 0, 1) := by decide +kernel
theorem dX2_takesSign_27 : decode cX2_takesSign 27 = .ok (.ireturn, 1) := by decide +kernel
theorem dX2_takesSign_28 : decode cX2_takesSign 28 = .ok (.aload_n 0, 1) := by decide +kernel
theorem dX2_takesSign_29 : decode cX2_takesSign 29 = .ok (.iload_n 1, 1) := by decide +kernel
theorem dX2_takesSign_30 : decode cX2_takesSign 30 = .ok (.iconst 3, 1) := by decide +kernel
theorem dX2_takesSign_31 : decode cX2_takesSign 31 = .ok (.if_icmp .ne 7, 3) := by decide +kernel
theorem dX2_takesSign_34 : decode cX2_takesSign 34 = .ok (.iconst 3, 1) := by decide +kernel
theorem dX2_takesSign_35 : decode cX2_takesSign 35 = .ok (.goto 6, 3) := by decide +kernel
theorem dX2_takesSign_38 : decode cX2_takesSign 38 = .ok (.iload_n 1, 1) := by decide +kernel
theorem dX2_takesSign_39 : decode cX2_takesSign 39 = .ok (.iconst 1, 1) := by decide +kernel
theorem dX2_takesSign_40 : decode cX2_takesSign 40 = .ok (.isub, 1) := by decide +kernel
theorem dX2_takesSign_41 : decode cX2_takesSign 41 = .ok (.invokevirtual 77, 3) := by decide +kernel
theorem dX2_takesSign_44 : decode cX2_takesSign 44 = .ok (.iload_n 1, 1) := by decide +kernel
theorem dX2_takesSign_45 : decode cX2_takesSign 45 = .ok (.iconst 3, 1) := by decide +kernel
theorem dX2_takesSign_46 : decode cX2_takesSign 46 = .ok (.if_icmp .ne 13, 3) := by decide +kernel
theorem dX2_takesSign_49 : decode cX2_takesSign 49 = .ok (.aload_n 0, 1) := by decide +kernel
theorem dX2_takesSign_50 : decode cX2_takesSign 50 = .ok (.invokevirtual 140, 3) := by decide +kernel
theorem dX2_takesSign_53 : decode cX2_takesSign 53 = .ok (.iconst 3, 1) := by decide +kernel
theorem dX2_takesSign_54 : decode cX2_takesSign 54 = .ok (.if_icmp .ne 5, 3) := by decide +kernel
theorem dX2_takesSign_57 : decode cX2_takesSign 57 = .ok (.iconst 0, 1) := by decide +kernel
theorem dX2_takesSign_58 : decode cX2_takesSign 58 = .ok (.ireturn, 1) := by decide +kernel
theorem dX2_takesSign_59 : decode cX2_takesSign 59 = .ok (.aload_n 0, 1) := by decide +kernel
theorem dX2_takesSign_60 : decode cX2_takesSign 60 = .ok (.aload_n 0, 1) := by decide +kernel
theorem dX2_takesSign_61 : decode cX2_takesSign 61 = .ok (.getfield 59, 3) := by decide +kernel
theorem dX2_takesSign_64 : decode cX2_takesSign 64 = .ok (.invokevirtual 112, 3) := by decide +kernel
theorem dX2_takesSign_67 : decode cX2_takesSign 67 = .ok (.iconst 1, 1) := by decide +kernel
theorem dX2_takesSign_68 : decode cX2_takesSign 68 = .ok (.ireturn, 1) := by decide +kernel
theorem dX2_closes_0 : decode cX2_closes 0 = .ok (.aload_n 0, 1) := by decide +kernel
theorem dX2_closes_1 : decode cX2_closes 1 = .ok (.getfield 39, 3) := by decide +kernel
theorem dX2_closes_4 : decode cX2_closes 4 = .ok (.ifCond .ne 5, 3) := by decide +kernel
theorem dX2_closes_7 : decode cX2_closes 7 = .ok (.iconst 0, 1) := by decide +kernel
theorem dX2_closes_8 : decode cX2_closes 8 = .ok (.ireturn, 1) := by decide +kernel
theorem dX2_closes_9 : decode cX2_closes 9 = .ok (.aload_n 0, 1) := by decide +kernel
theorem dX2_closes_10 : decode cX2_closes 10 = .ok (.iconst 0, 1) := by decide +kernel
theorem dX2_closes_11 : decode cX2_closes 11 = .ok (.invokevirtual 77, 3) := by decide +kernel
theorem dX2_closes_14 : decode cX2_closes 14 = .ok (.aload_n 0, 1) := by decide +kernel
theorem dX2_closes_15 : decode cX2_closes 15 = .ok (.getfield 36, 3) := by decide +kernel
theorem dX2_closes_18 : decode cX2_closes 18 = .ok (.ifCond .le 13, 3) := by decide +kernel
theorem dX2_closes_21 : decode cX2_closes 21 = .ok (.aload_n 0, 1) := by decide +kernel
theorem dX2_closes_22 : decode cX2_closes 22 = .ok (.dup, 1) := by decide +kernel
theorem dX2_closes_23 : decode cX2_closes 23 = .ok (.getfield 36, 3) := by decide +kernel
theorem dX2_closes_26 : decode cX2_closes 26 = .ok (.iconst 1, 1) := by decide +kernel
theorem dX2_closes_27 : decode cX2_closes 27 = .ok (.isub, 1) := by decide +kernel
theorem dX2_closes_28 : decode cX2_closes 28 = .ok (.putfield 36, 3) := by decide +kernel
theorem dX2_closes_31 : decode cX2_closes 31 = .ok (.aload_n 0, 1) := by decide +kernel
theorem dX2_closes_32 : decode cX2_closes 32 = .ok (.dup, 1) := by decide +kernel
theorem dX2_closes_33 : decode cX2_closes 33 = .ok (.getfield 39, 3) := by decide +kernel
theorem dX2_closes_36 : decode cX2_closes 36 = .ok (.iconst 1, 1) := by decide +kernel
theorem dX2_closes_37 : decode cX2_closes 37 = .ok (.isub, 1) := by decide +kernel
theorem dX2_closes_38 : decode cX2_closes 38 = .ok (.putfield 39, 3) := by decide +kernel
theorem dX2_closes_41 : decode cX2_closes 41 = .ok (.aload_n 0, 1) := by decide +kernel
theorem dX2_closes_42 : decode cX2_closes 42 = .ok (.invokevirtual 118, 3) := by decide +kernel
theorem dX2_closes_45 : decode cX2_closes 45 = .ok (.iconst 1, 1) := by decide +kernel
theorem dX2_closes_46 : decode cX2_closes 46 = .ok (.ireturn, 1) := by decide +kernel
theorem dX2_push_0 : decode cX2_push 0 = .ok (.aload_n 0, 1) := by decide +kernel
theorem dX2_push_1 : decode cX2_push 1 = .ok (.getfield 36, 3) := by decide +kernel
theorem dX2_push_4 : decode cX2_push 4 = .ok (.bipush 96, 2) := by decide +kernel
theorem dX2_push_6 : decode cX2_push 6 = .ok (.if_icmp .ge 23, 3) := by decide +kernel
theorem dX2_push_9 : decode cX2_push 9 = .ok (.aload_n 0, 1) := by decide +kernel
theorem dX2_push_10 : decode cX2_push 10 = .ok (.getfield 22, 3) := by decide +kernel
theorem dX2_push_13 : decode cX2_push 13 = .ok (.aload_n 0, 1) := by decide +kernel
theorem dX2_push_14 : decode cX2_push 14 = .ok (.getfield 36, 3) := by decide +kernel
theorem dX2_push_17 : decode cX2_push 17 = .ok (.iload_n 1, 1) := by decide +kernel
theorem dX2_push_18 : decode cX2_push 18 = .ok (.iastore, 1) := by decide +kernel
theorem dX2_push_19 : decode cX2_push 19 = .ok (.aload_n 0, 1) := by decide +kernel
theorem dX2_push_20 : decode cX2_push 20 = .ok (.dup, 1) := by decide +kernel
theorem dX2_push_21 : decode cX2_push 21 = .ok (.getfield 36, 3) := by decide +kernel
theorem dX2_push_24 : decode cX2_push 24 = .ok (.iconst 1, 1) := by decide +kernel
theorem dX2_push_25 : decode cX2_push 25 = .ok (.iadd, 1) := by decide +kernel
theorem dX2_push_26 : decode cX2_push 26 = .ok (.putfield 36, 3) := by decide +kernel
theorem dX2_push_29 : decode cX2_push 29 = .ok (.return_, 1) := by decide +kernel
theorem dX2_drop_0 : decode cX2_drop 0 = .ok (.aload_n 0, 1) := by decide +kernel
theorem dX2_drop_1 : decode cX2_drop 1 = .ok (.invokevirtual 140, 3) := by decide +kernel
theorem dX2_drop_4 : decode cX2_drop 4 = .ok (.iload_n 1, 1) := by decide +kernel
theorem dX2_drop_5 : decode cX2_drop 5 = .ok (.if_icmp .le 33, 3) := by decide +kernel
theorem dX2_drop_8 : decode cX2_drop 8 = .ok (.aload_n 0, 1) := by decide +kernel
theorem dX2_drop_9 : decode cX2_drop 9 = .ok (.dup, 1) := by decide +kernel
theorem dX2_drop_10 : decode cX2_drop 10 = .ok (.getfield 36, 3) := by decide +kernel
theorem dX2_drop_13 : decode cX2_drop 13 = .ok (.iconst 1, 1) := by decide +kernel
theorem dX2_drop_14 : decode cX2_drop 14 = .ok (.isub, 1) := by decide +kernel
theorem dX2_drop_15 : decode cX2_drop 15 = .ok (.putfield 36, 3) := by decide +kernel
theorem dX2_drop_18 : decode cX2_drop 18 = .ok (.aload_n 0, 1) := by decide +kernel
theorem dX2_drop_19 : decode cX2_drop 19 = .ok (.getfield 18, 3) := by decide +kernel
theorem dX2_drop_22 : decode cX2_drop 22 = .ok (.aload_n 0, 1) := by decide +kernel
theorem dX2_drop_23 : decode cX2_drop 23 = .ok (.getfield 22, 3) := by decide +kernel
theorem dX2_drop_26 : decode cX2_drop 26 = .ok (.aload_n 0, 1) := by decide +kernel
theorem dX2_drop_27 : decode cX2_drop 27 = .ok (.getfield 36, 3) := by decide +kernel
theorem dX2_drop_30 : decode cX2_drop 30 = .ok (.iaload, 1) := by decide +kernel
theorem dX2_drop_31 : decode cX2_drop 31 = .ok (.ineg, 1) := by decide +kernel
theorem dX2_drop_32 : decode cX2_drop 32 = .ok (.invokevirtual 143, 3) := by decide +kernel
theorem dX2_drop_35 : decode cX2_drop 35 = .ok (.goto (-35), 3) := by decide +kernel
theorem dX2_drop_38 : decode cX2_drop 38 = .ok (.return_, 1) := by decide +kernel
theorem dX2_dropNots_0 : decode cX2_dropNots 0 = .ok (.aload_n 0, 1) := by decide +kernel
theorem dX2_dropNots_1 : decode cX2_dropNots 1 = .ok (.getfield 36, 3) := by decide +kernel
theorem dX2_dropNots_4 : decode cX2_dropNots 4 = .ok (.ifCond .le 51, 3) := by decide +kernel
theorem dX2_dropNots_7 : decode cX2_dropNots 7 = .ok (.aload_n 0, 1) := by decide +kernel
theorem dX2_dropNots_8 : decode cX2_dropNots 8 = .ok (.getfield 22, 3) := by decide +kernel
theorem dX2_dropNots_11 : decode cX2_dropNots 11 = .ok (.aload_n 0, 1) := by decide +kernel
theorem dX2_dropNots_12 : decode cX2_dropNots 12 = .ok (.getfield 36, 3) := by decide +kernel
theorem dX2_dropNots_15 : decode cX2_dropNots 15 = .ok (.iconst 1, 1) := by decide +kernel
theorem dX2_dropNots_16 : decode cX2_dropNots 16 = .ok (.isub, 1) := by decide +kernel
theorem dX2_dropNots_17 : decode cX2_dropNots 17 = .ok (.iaload, 1) := by decide +kernel
theorem dX2_dropNots_18 : decode cX2_dropNots 18 = .ok (.bipush 33, 2) := by decide +kernel
theorem dX2_dropNots_20 : decode cX2_dropNots 20 = .ok (.if_icmp .ne 35, 3) := by decide +kernel
theorem dX2_dropNots_23 : decode cX2_dropNots 23 = .ok (.aload_n 0, 1) := by decide +kernel
theorem dX2_dropNots_24 : decode cX2_dropNots 24 = .ok (.dup, 1) := by decide +kernel
theorem dX2_dropNots_25 : decode cX2_dropNots 25 = .ok (.getfield 36, 3) := by decide +kernel
theorem dX2_dropNots_28 : decode cX2_dropNots 28 = .ok (.iconst 1, 1) := by decide +kernel
theorem dX2_dropNots_29 : decode cX2_dropNots 29 = .ok (.isub, 1) := by decide +kernel
theorem dX2_dropNots_30 : decode cX2_dropNots 30 = .ok (.putfield 36, 3) := by decide +kernel
theorem dX2_dropNots_33 : decode cX2_dropNots 33 = .ok (.aload_n 0, 1) := by decide +kernel
theorem dX2_dropNots_34 : decode cX2_dropNots 34 = .ok (.dup, 1) := by decide +kernel
theorem dX2_dropNots_35 : decode cX2_dropNots 35 = .ok (.getfield 42, 3) := by decide +kernel
theorem dX2_dropNots_38 : decode cX2_dropNots 38 = .ok (.iconst 1, 1) := by decide +kernel
theorem dX2_dropNots_39 : decode cX2_dropNots 39 = .ok (.isub, 1) := by decide +kernel
theorem dX2_dropNots_40 : decode cX2_dropNots 40 = .ok (.putfield 42, 3) := by decide +kernel
theorem dX2_dropNots_43 : decode cX2_dropNots 43 = .ok (.aload_n 0, 1) := by decide +kernel
theorem dX2_dropNots_44 : decode cX2_dropNots 44 = .ok (.getfield 18, 3) := by decide +kernel
theorem dX2_dropNots_47 : decode cX2_dropNots 47 = .ok (.bipush (-33), 2) := by decide +kernel
theorem dX2_dropNots_49 : decode cX2_dropNots 49 = .ok (.invokevirtual 143, 3) := by decide +kernel
theorem dX2_dropNots_52 : decode cX2_dropNots 52 = .ok (.goto (-52), 3) := by decide +kernel
theorem dX2_dropNots_55 : decode cX2_dropNots 55 = .ok (.return_, 1) := by decide +kernel
theorem dX2_topLevel_0 : decode cX2_topLevel 0 = .ok (.aload_n 0, 1) := by decide +kernel
theorem dX2_topLevel_1 : decode cX2_topLevel 1 = .ok (.getfield 36, 3) := by decide +kernel
theorem dX2_topLevel_4 : decode cX2_topLevel 4 = .ok (.ifCond .le 20, 3) := by decide +kernel
theorem dX2_topLevel_7 : decode cX2_topLevel 7 = .ok (.aload_n 0, 1) := by decide +kernel
theorem dX2_topLevel_8 : decode cX2_topLevel 8 = .ok (.getfield 22, 3) := by decide +kernel
theorem dX2_topLevel_11 : decode cX2_topLevel 11 = .ok (.aload_n 0, 1) := by decide +kernel
theorem dX2_topLevel_12 : decode cX2_topLevel 12 = .ok (.getfield 36, 3) := by decide +kernel
theorem dX2_topLevel_15 : decode cX2_topLevel 15 = .ok (.iconst 1, 1) := by decide +kernel
theorem dX2_topLevel_16 : decode cX2_topLevel 16 = .ok (.isub, 1) := by decide +kernel
theorem dX2_topLevel_17 : decode cX2_topLevel 17 = .ok (.iaload, 1) := by decide +kernel
theorem dX2_topLevel_18 : decode cX2_topLevel 18 = .ok (.invokestatic 73, 3) := by decide +kernel
theorem dX2_topLevel_21 : decode cX2_topLevel 21 = .ok (.goto 4, 3) := by decide +kernel
theorem dX2_topLevel_24 : decode cX2_topLevel 24 = .ok (.iconst 0, 1) := by decide +kernel
theorem dX2_topLevel_25 : decode cX2_topLevel 25 = .ok (.ireturn, 1) := by decide +kernel
theorem dX2_levelOf_0 : decode cX2_levelOf 0 = .ok (.iload_n 0, 1) := by decide +kernel
theorem dX2_levelOf_1 : decode cX2_levelOf 1 = .ok (.lookupswitch 93 #[(38, 85), (42, 91), (43, 89), (45, 89), (47, 91), (60, 87), (61, 87), (62, 87), (124, 83)], 83) := by decide +kernel
end
section
theorem dX2_levelOf_84 : decode cX2_levelOf 84 = .ok (.iconst 1, 1) := by decide +kernel
theorem dX2_levelOf_85 : decode cX2_levelOf 85 = .ok (.ireturn, 1) := by decide +kernel
theorem dX2_levelOf_86 : decode cX2_levelOf 86 = .ok (.iconst 2, 1) := by decide +kernel
theorem dX2_levelOf_87 : decode cX2_levelOf 87 = .ok (.ireturn, 1) := by decide +kernel
theorem dX2_levelOf_88 : decode cX2_levelOf 88 = .ok (.iconst 3, 1) := by decide +kernel
theorem dX2_levelOf_89 : decode cX2_levelOf 89 = .ok (.ireturn, 1) := by decide +kernel
theorem dX2_levelOf_90 : decode cX2_levelOf 90 = .ok (.iconst 4, 1) := by decide +kernel
theorem dX2_levelOf_91 : decode cX2_levelOf 91 = .ok (.ireturn, 1) := by decide +kernel
theorem dX2_levelOf_92 : decode cX2_levelOf 92 = .ok (.iconst 5, 1) := by decide +kernel
theorem dX2_levelOf_93 : decode cX2_levelOf 93 = .ok (.ireturn, 1) := by decide +kernel
theorem dX2_levelOf_94 : decode cX2_levelOf 94 = .ok (.iconst 0, 1) := by decide +kernel
theorem dX2_levelOf_95 : decode cX2_levelOf 95 = .ok (.ireturn, 1) := by decide +kernel
theorem dX3_init_0 : decode cX3_init 0 = .ok (.aload_n 0, 1) := by decide +kernel
theorem dX3_init_1 : decode cX3_init 1 = .ok (.invokespecial 3, 3) := by decide +kernel
theorem dX3_init_4 : decode cX3_init 4 = .ok (.aload_n 0, 1) := by decide +kernel
theorem dX3_init_5 : decode cX3_init 5 = .ok (.iconst (-1), 1) := by decide +kernel
theorem dX3_init_6 : decode cX3_init 6 = .ok (.putfield 9, 3) := by decide +kernel
theorem dX3_init_9 : decode cX3_init 9 = .ok (.aload_n 0, 1) := by decide +kernel
theorem dX3_init_10 : decode cX3_init 10 = .ok (.bipush 24, 2) := by decide +kernel
theorem dX3_init_12 : decode cX3_init 12 = .ok (.newarray .int, 2) := by decide +kernel
theorem dX3_init_14 : decode cX3_init 14 = .ok (.putfield 15, 3) := by decide +kernel
theorem dX3_init_17 : decode cX3_init 17 = .ok (.return_, 1) := by decide +kernel
theorem dX3_begin_0 : decode cX3_begin 0 = .ok (.aload_n 0, 1) := by decide +kernel
theorem dX3_begin_1 : decode cX3_begin 1 = .ok (.iload_n 1, 1) := by decide +kernel
theorem dX3_begin_2 : decode cX3_begin 2 = .ok (.putfield 9, 3) := by decide +kernel
theorem dX3_begin_5 : decode cX3_begin 5 = .ok (.aload_n 0, 1) := by decide +kernel
theorem dX3_begin_6 : decode cX3_begin 6 = .ok (.iload_n 2, 1) := by decide +kernel
theorem dX3_begin_7 : decode cX3_begin 7 = .ok (.putfield 19, 3) := by decide +kernel
theorem dX3_begin_10 : decode cX3_begin 10 = .ok (.iconst 0, 1) := by decide +kernel
theorem dX3_begin_11 : decode cX3_begin 11 = .ok (.istore_n 3, 1) := by decide +kernel
theorem dX3_begin_12 : decode cX3_begin 12 = .ok (.iload_n 3, 1) := by decide +kernel
theorem dX3_begin_13 : decode cX3_begin 13 = .ok (.bipush 24, 2) := by decide +kernel
theorem dX3_begin_15 : decode cX3_begin 15 = .ok (.if_icmp .ge 16, 3) := by decide +kernel
theorem dX3_begin_18 : decode cX3_begin 18 = .ok (.aload_n 0, 1) := by decide +kernel
theorem dX3_begin_19 : decode cX3_begin 19 = .ok (.getfield 15, 3) := by decide +kernel
theorem dX3_begin_22 : decode cX3_begin 22 = .ok (.iload_n 3, 1) := by decide +kernel
theorem dX3_begin_23 : decode cX3_begin 23 = .ok (.iconst 0, 1) := by decide +kernel
theorem dX3_begin_24 : decode cX3_begin 24 = .ok (.iastore, 1) := by decide +kernel
theorem dX3_begin_25 : decode cX3_begin 25 = .ok (.iinc 3 1, 3) := by decide +kernel
theorem dX3_begin_28 : decode cX3_begin 28 = .ok (.goto (-16), 3) := by decide +kernel
theorem dX3_begin_31 : decode cX3_begin 31 = .ok (.return_, 1) := by decide +kernel
theorem dX3_takeOver_0 : decode cX3_takeOver 0 = .ok (.aload_n 0, 1) := by decide +kernel
theorem dX3_takeOver_1 : decode cX3_takeOver 1 = .ok (.aload_n 1, 1) := by decide +kernel
theorem dX3_takeOver_2 : decode cX3_takeOver 2 = .ok (.getfield 9, 3) := by decide +kernel
theorem dX3_takeOver_5 : decode cX3_takeOver 5 = .ok (.putfield 9, 3) := by decide +kernel
theorem dX3_takeOver_8 : decode cX3_takeOver 8 = .ok (.aload_n 0, 1) := by decide +kernel
theorem dX3_takeOver_9 : decode cX3_takeOver 9 = .ok (.aload_n 1, 1) := by decide +kernel
theorem dX3_takeOver_10 : decode cX3_takeOver 10 = .ok (.getfield 19, 3) := by decide +kernel
theorem dX3_takeOver_13 : decode cX3_takeOver 13 = .ok (.putfield 19, 3) := by decide +kernel
theorem dX3_takeOver_16 : decode cX3_takeOver 16 = .ok (.aload_n 1, 1) := by decide +kernel
theorem dX3_takeOver_17 : decode cX3_takeOver 17 = .ok (.getfield 15, 3) := by decide +kernel
theorem dX3_takeOver_20 : decode cX3_takeOver 20 = .ok (.iconst 0, 1) := by decide +kernel
theorem dX3_takeOver_21 : decode cX3_takeOver 21 = .ok (.aload_n 0, 1) := by decide +kernel
theorem dX3_takeOver_22 : decode cX3_takeOver 22 = .ok (.getfield 15, 3) := by decide +kernel
theorem dX3_takeOver_25 : decode cX3_takeOver 25 = .ok (.iconst 0, 1) := by decide +kernel
theorem dX3_takeOver_26 : decode cX3_takeOver 26 = .ok (.bipush 24, 2) := by decide +kernel
theorem dX3_takeOver_28 : decode cX3_takeOver 28 = .ok (.invokestatic 22, 3) := by decide +kernel
theorem dX3_takeOver_31 : decode cX3_takeOver 31 = .ok (.return_, 1) := by decide +kernel
theorem dX3_hasNumber_0 : decode cX3_hasNumber 0 = .ok (.aload_n 0, 1) := by decide +kernel
theorem dX3_hasNumber_1 : decode cX3_hasNumber 1 = .ok (.getfield 15, 3) := by decide +kernel
theorem dX3_hasNumber_4 : decode cX3_hasNumber 4 = .ok (.iload_n 1, 1) := by decide +kernel
theorem dX3_hasNumber_5 : decode cX3_hasNumber 5 = .ok (.iaload, 1) := by decide +kernel
theorem dX3_hasNumber_6 : decode cX3_hasNumber 6 = .ok (.ldc 28, 2) := by decide +kernel
theorem dX3_hasNumber_8 : decode cX3_hasNumber 8 = .ok (.if_icmp .eq 7, 3) := by decide +kernel
theorem dX3_hasNumber_11 : decode cX3_hasNumber 11 = .ok (.iconst 1, 1) := by decide +kernel
theorem dX3_hasNumber_12 : decode cX3_hasNumber 12 = .ok (.goto 4, 3) := by decide +kernel
theorem dX3_hasNumber_15 : decode cX3_hasNumber 15 = .ok (.iconst 0, 1) := by decide +kernel
theorem dX3_hasNumber_16 : decode cX3_hasNumber 16 = .ok (.ireturn, 1) := by decide +kernel
theorem dX3_lacks_0 : decode cX3_lacks 0 = .ok (.iload_n 2, 1) := by decide +kernel
theorem dX3_lacks_1 : decode cX3_lacks 1 = .ok (.ifCond .lt 25, 3) := by decide +kernel
theorem dX3_lacks_4 : decode cX3_lacks 4 = .ok (.iload_n 1, 1) := by decide +kernel
theorem dX3_lacks_5 : decode cX3_lacks 5 = .ok (.ifCond .lt 21, 3) := by decide +kernel
theorem dX3_lacks_8 : decode cX3_lacks 8 = .ok (.iload_n 1, 1) := by decide +kernel
theorem dX3_lacks_9 : decode cX3_lacks 9 = .ok (.aload_n 0, 1) := by decide +kernel
theorem dX3_lacks_10 : decode cX3_lacks 10 = .ok (.getfield 19, 3) := by decide +kernel
theorem dX3_lacks_13 : decode cX3_lacks 13 = .ok (.if_icmp .gt 13, 3) := by decide +kernel
theorem dX3_lacks_16 : decode cX3_lacks 16 = .ok (.iload_n 2, 1) := by decide +kernel
theorem dX3_lacks_17 : decode cX3_lacks 17 = .ok (.aload_n 0, 1) := by decide +kernel
theorem dX3_lacks_18 : decode cX3_lacks 18 = .ok (.getfield 19, 3) := by decide +kernel
theorem dX3_lacks_21 : decode cX3_lacks 21 = .ok (.iload_n 1, 1) := by decide +kernel
theorem dX3_lacks_22 : decode cX3_lacks 22 = .ok (.isub, 1) := by decide +kernel
theorem dX3_lacks_23 : decode cX3_lacks 23 = .ok (.if_icmp .le 7, 3) := by decide +kernel
theorem dX3_lacks_26 : decode cX3_lacks 26 = .ok (.iconst 1, 1) := by decide +kernel
theorem dX3_lacks_27 : decode cX3_lacks 27 = .ok (.goto 4, 3) := by decide +kernel
theorem dX3_lacks_30 : decode cX3_lacks 30 = .ok (.iconst 0, 1) := by decide +kernel
theorem dX3_lacks_31 : decode cX3_lacks 31 = .ok (.ireturn, 1) := by decide +kernel
theorem dX4_init_0 : decode cX4_init 0 = .ok (.aload_n 0, 1) := by decide +kernel
theorem dX4_init_1 : decode cX4_init 1 = .ok (.invokespecial 3, 3) := by decide +kernel
theorem dX4_init_4 : decode cX4_init 4 = .ok (.aload_n 0, 1) := by decide +kernel
theorem dX4_init_5 : decode cX4_init 5 = .ok (.iconst 0, 1) := by decide +kernel
theorem dX4_init_6 : decode cX4_init 6 = .ok (.putfield 9, 3) := by decide +kernel
theorem dX4_init_9 : decode cX4_init 9 = .ok (.aload_n 0, 1) := by decide +kernel
theorem dX4_init_10 : decode cX4_init 10 = .ok (.new 15, 3) := by decide +kernel
theorem dX4_init_13 : decode cX4_init 13 = .ok (.dup, 1) := by decide +kernel
theorem dX4_init_14 : decode cX4_init 14 = .ok (.invokespecial 17, 3) := by decide +kernel
theorem dX4_init_17 : decode cX4_init 17 = .ok (.putfield 18, 3) := by decide +kernel
theorem dX4_init_20 : decode cX4_init 20 = .ok (.return_, 1) := by decide +kernel
theorem dX5_init_0 : decode cX5_init 0 = .ok (.aload_n 0, 1) := by decide +kernel
theorem dX5_init_1 : decode cX5_init 1 = .ok (.invokespecial 3, 3) := by decide +kernel
theorem dX5_init_4 : decode cX5_init 4 = .ok (.aload_n 0, 1) := by decide +kernel
theorem dX5_init_5 : decode cX5_init 5 = .ok (.bipush 96, 2) := by decide +kernel
theorem dX5_init_7 : decode cX5_init 7 = .ok (.newarray .int, 2) := by decide +kernel
theorem dX5_init_9 : decode cX5_init 9 = .ok (.putfield 9, 3) := by decide +kernel
theorem dX5_init_12 : decode cX5_init 12 = .ok (.return_, 1) := by decide +kernel
theorem dX5_begin_0 : decode cX5_begin 0 = .ok (.aload_n 0, 1) := by decide +kernel
theorem dX5_begin_1 : decode cX5_begin 1 = .ok (.iload_n 1, 1) := by decide +kernel
theorem dX5_begin_2 : decode cX5_begin 2 = .ok (.putfield 15, 3) := by decide +kernel
theorem dX5_begin_5 : decode cX5_begin 5 = .ok (.aload_n 0, 1) := by decide +kernel
theorem dX5_begin_6 : decode cX5_begin 6 = .ok (.iconst 0, 1) := by decide +kernel
theorem dX5_begin_7 : decode cX5_begin 7 = .ok (.putfield 19, 3) := by decide +kernel
theorem dX5_begin_10 : decode cX5_begin 10 = .ok (.aload_n 0, 1) := by decide +kernel
theorem dX5_begin_11 : decode cX5_begin 11 = .ok (.iconst 0, 1) := by decide +kernel
theorem dX5_begin_12 : decode cX5_begin 12 = .ok (.putfield 22, 3) := by decide +kernel
theorem dX5_begin_15 : decode cX5_begin 15 = .ok (.return_, 1) := by decide +kernel
theorem dX5_takeOver_0 : decode cX5_takeOver 0 = .ok (.aload_n 0, 1) := by decide +kernel
theorem dX5_takeOver_1 : decode cX5_takeOver 1 = .ok (.aload_n 1, 1) := by decide +kernel
theorem dX5_takeOver_2 : decode cX5_takeOver 2 = .ok (.getfield 15, 3) := by decide +kernel
theorem dX5_takeOver_5 : decode cX5_takeOver 5 = .ok (.putfield 15, 3) := by decide +kernel
theorem dX5_takeOver_8 : decode cX5_takeOver 8 = .ok (.aload_n 0, 1) := by decide +kernel
theorem dX5_takeOver_9 : decode cX5_takeOver 9 = .ok (.aload_n 1, 1) := by decide +kernel
theorem dX5_takeOver_10 : decode cX5_takeOver 10 = .ok (.getfield 19, 3) := by decide +kernel
theorem dX5_takeOver_13 : decode cX5_takeOver 13 = .ok (.putfield 19, 3) := by decide +kernel
theorem dX5_takeOver_16 : decode cX5_takeOver 16 = .ok (.aload_n 0, 1) := by decide +kernel
theorem dX5_takeOver_17 : decode cX5_takeOver 17 = .ok (.aload_n 1, 1) := by decide +kernel
theorem dX5_takeOver_18 : decode cX5_takeOver 18 = .ok (.getfield 22, 3) := by decide +kernel
theorem dX5_takeOver_21 : decode cX5_takeOver 21 = .ok (.putfield 22, 3) := by decide +kernel
theorem dX5_takeOver_24 : decode cX5_takeOver 24 = .ok (.aload_n 1, 1) := by decide +kernel
theorem dX5_takeOver_25 : decode cX5_takeOver 25 = .ok (.getfield 9, 3) := by decide +kernel
theorem dX5_takeOver_28 : decode cX5_takeOver 28 = .ok (.iconst 0, 1) := by decide +kernel
theorem dX5_takeOver_29 : decode cX5_takeOver 29 = .ok (.aload_n 0, 1) := by decide +kernel
theorem dX5_takeOver_30 : decode cX5_takeOver 30 = .ok (.getfield 9, 3) := by decide +kernel
theorem dX5_takeOver_33 : decode cX5_takeOver 33 = .ok (.iconst 0, 1) := by decide +kernel
theorem dX5_takeOver_34 : decode cX5_takeOver 34 = .ok (.bipush 96, 2) := by decide +kernel
theorem dX5_takeOver_36 : decode cX5_takeOver 36 = .ok (.invokestatic 25, 3) := by decide +kernel
theorem dX5_takeOver_39 : decode cX5_takeOver 39 = .ok (.return_, 1) := by decide +kernel
theorem dX5_add_0 : decode cX5_add 0 = .ok (.aload_n 0, 1) := by decide +kernel
theorem dX5_add_1 : decode cX5_add 1 = .ok (.getfield 22, 3) := by decide +kernel
theorem dX5_add_4 : decode cX5_add 4 = .ok (.bipush 96, 2) := by decide +kernel
theorem dX5_add_6 : decode cX5_add 6 = .ok (.if_icmp .ge 23, 3) := by decide +kernel
theorem dX5_add_9 : decode cX5_add 9 = .ok (.aload_n 0, 1) := by decide +kernel
theorem dX5_add_10 : decode cX5_add 10 = .ok (.getfield 9, 3) := by decide +kernel
theorem dX5_add_13 : decode cX5_add 13 = .ok (.aload_n 0, 1) := by decide +kernel
theorem dX5_add_14 : decode cX5_add 14 = .ok (.getfield 22, 3) := by decide +kernel
theorem dX5_add_17 : decode cX5_add 17 = .ok (.iload_n 1, 1) := by decide +kernel
theorem dX5_add_18 : decode cX5_add 18 = .ok (.iastore, 1) := by decide +kernel
theorem dX5_add_19 : decode cX5_add 19 = .ok (.aload_n 0, 1) := by decide +kernel
theorem dX5_add_20 : decode cX5_add 20 = .ok (.dup, 1) := by decide +kernel
theorem dX5_add_21 : decode cX5_add 21 = .ok (.getfield 22, 3) := by decide +kernel
theorem dX5_add_24 : decode cX5_add 24 = .ok (.iconst 1, 1) := by decide +kernel
theorem dX5_add_25 : decode cX5_add 25 = .ok (.iadd, 1) := by decide +kernel
theorem dX5_add_26 : decode cX5_add 26 = .ok (.putfield 22, 3) := by decide +kernel
theorem dX5_add_29 : decode cX5_add 29 = .ok (.return_, 1) := by decide +kernel
theorem dX5_addLeaf_0 : decode cX5_addLeaf 0 = .ok (.aload_n 0, 1) := by decide +kernel
theorem dX5_addLeaf_1 : decode cX5_addLeaf 1 = .ok (.iload_n 1, 1) := by decide +kernel
theorem dX5_addLeaf_2 : decode cX5_addLeaf 2 = .ok (.invokevirtual 31, 3) := by decide +kernel
theorem dX5_addLeaf_5 : decode cX5_addLeaf 5 = .ok (.aload_n 0, 1) := by decide +kernel
theorem dX5_addLeaf_6 : decode cX5_addLeaf 6 = .ok (.dup, 1) := by decide +kernel
theorem dX5_addLeaf_7 : decode cX5_addLeaf 7 = .ok (.getfield 19, 3) := by decide +kernel
theorem dX5_addLeaf_10 : decode cX5_addLeaf 10 = .ok (.iconst 1, 1) := by decide +kernel
theorem dX5_addLeaf_11 : decode cX5_addLeaf 11 = .ok (.iadd, 1) := by decide +kernel
theorem dX5_addLeaf_12 : decode cX5_addLeaf 12 = .ok (.putfield 19, 3) := by decide +kernel
theorem dX5_addLeaf_15 : decode cX5_addLeaf 15 = .ok (.return_, 1) := by decide +kernel
theorem dX6_init_0 : decode cX6_init 0 = .ok (.aload_n 0, 1) := by decide +kernel
theorem dX6_init_1 : decode cX6_init 1 = .ok (.invokespecial 1, 3) := by decide +kernel
theorem dX6_init_4 : decode cX6_init 4 = .ok (.aload_n 0, 1) := by decide +kernel
theorem dX6_init_5 : decode cX6_init 5 = .ok (.new 7, 3) := by decide +kernel
theorem dX6_init_8 : decode cX6_init 8 = .ok (.dup, 1) := by decide +kernel
theorem dX6_init_9 : decode cX6_init 9 = .ok (.invokespecial 9, 3) := by decide +kernel
theorem dX6_init_12 : decode cX6_init 12 = .ok (.putfield 10, 3) := by decide +kernel
theorem dX6_init_15 : decode cX6_init 15 = .ok (.aload_n 0, 1) := by decide +kernel
theorem dX6_init_16 : decode cX6_init 16 = .ok (.new 16, 3) := by decide +kernel
theorem dX6_init_19 : decode cX6_init 19 = .ok (.dup, 1) := by decide +kernel
theorem dX6_init_20 : decode cX6_init 20 = .ok (.invokespecial 18, 3) := by decide +kernel
theorem dX6_init_23 : decode cX6_init 23 = .ok (.putfield 19, 3) := by decide +kernel
theorem dX6_init_26 : decode cX6_init 26 = .ok (.aload_n 0, 1) := by decide +kernel
theorem dX6_init_27 : decode cX6_init 27 = .ok (.new 23, 3) := by decide +kernel
theorem dX6_init_30 : decode cX6_init 30 = .ok (.dup, 1) := by decide +kernel
theorem dX6_init_31 : decode cX6_init 31 = .ok (.aload_n 0, 1) := by decide +kernel
theorem dX6_init_32 : decode cX6_init 32 = .ok (.getfield 10, 3) := by decide +kernel
theorem dX6_init_35 : decode cX6_init 35 = .ok (.invokespecial 25, 3) := by decide +kernel
theorem dX6_init_38 : decode cX6_init 38 = .ok (.putfield 28, 3) := by decide +kernel
theorem dX6_init_41 : decode cX6_init 41 = .ok (.aload_n 0, 1) := by decide +kernel
theorem dX6_init_42 : decode cX6_init 42 = .ok (.new 23, 3) := by decide +kernel
theorem dX6_init_45 : decode cX6_init 45 = .ok (.dup, 1) := by decide +kernel
theorem dX6_init_46 : decode cX6_init 46 = .ok (.aload_n 0, 1) := by decide +kernel
theorem dX6_init_47 : decode cX6_init 47 = .ok (.getfield 10, 3) := by decide +kernel
theorem dX6_init_50 : decode cX6_init 50 = .ok (.invokespecial 25, 3) := by decide +kernel
theorem dX6_init_53 : decode cX6_init 53 = .ok (.putfield 32, 3) := by decide +kernel
theorem dX6_init_56 : decode cX6_init 56 = .ok (.aload_n 0, 1) := by decide +kernel
theorem dX6_init_57 : decode cX6_init 57 = .ok (.new 23, 3) := by decide +kernel
theorem dX6_init_60 : decode cX6_init 60 = .ok (.dup, 1) := by decide +kernel
theorem dX6_init_61 : decode cX6_init 61 = .ok (.aload_n 0, 1) := by decide +kernel
theorem dX6_init_62 : decode cX6_init 62 = .ok (.getfield 10, 3) := by decide +kernel
theorem dX6_init_65 : decode cX6_init 65 = .ok (.invokespecial 25, 3) := by decide +kernel
theorem dX6_init_68 : decode cX6_init 68 = .ok (.putfield 35, 3) := by decide +kernel
theorem dX6_init_71 : decode cX6_init 71 = .ok (.aload_n 0, 1) := by decide +kernel
theorem dX6_init_72 : decode cX6_init 72 = .ok (.iconst 4, 1) := by decide +kernel
theorem dX6_init_73 : decode cX6_init 73 = .ok (.anewarray 38, 3) := by decide +kernel
theorem dX6_init_76 : decode cX6_init 76 = .ok (.putfield 40, 3) := by decide +kernel
theorem dX6_init_79 : decode cX6_init 79 = .ok (.iconst 0, 1) := by decide +kernel
theorem dX6_init_80 : decode cX6_init 80 = .ok (.istore_n 1, 1) := by decide +kernel
theorem dX6_init_81 : decode cX6_init 81 = .ok (.iload_n 1, 1) := by decide +kernel
theorem dX6_init_82 : decode cX6_init 82 = .ok (.iconst 4, 1) := by decide +kernel
theorem dX6_init_83 : decode cX6_init 83 = .ok (.if_icmp .ge 22, 3) := by decide +kernel
theorem dX6_init_86 : decode cX6_init 86 = .ok (.aload_n 0, 1) := by decide +kernel
theorem dX6_init_87 : decode cX6_init 87 = .ok (.getfield 40, 3) := by decide +kernel
theorem dX6_init_90 : decode cX6_init 90 = .ok (.iload_n 1, 1) := by decide +kernel
theorem dX6_init_91 : decode cX6_init 91 = .ok (.new 38, 3) := by decide +kernel
theorem dX6_init_94 : decode cX6_init 94 = .ok (.dup, 1) := by decide +kernel
theorem dX6_init_95 : decode cX6_init 95 = .ok (.invokespecial 44, 3) := by decide +kernel
theorem dX6_init_98 : decode cX6_init 98 = .ok (.aastore, 1) := by decide +kernel
theorem dX6_init_99 : decode cX6_init 99 = .ok (.iinc 1 1, 3) := by decide +kernel
theorem dX6_init_102 : decode cX6_init 102 = .ok (.goto (-21), 3) := by decide +kernel
theorem dX6_init_105 : decode cX6_init 105 = .ok (.aload_n 0, 1) := by decide +kernel
theorem dX6_init_106 : decode cX6_init 106 = .ok (.iconst 5, 1) := by decide +kernel
theorem dX6_init_107 : decode cX6_init 107 = .ok (.anewarray 45, 3) := by decide +kernel
theorem dX6_init_110 : decode cX6_init 110 = .ok (.putfield 47, 3) := by decide +kernel
theorem dX6_init_113 : decode cX6_init 113 = .ok (.iconst 0, 1) := by decide +kernel
theorem dX6_init_114 : decode cX6_init 114 = .ok (.istore_n 1, 1) := by decide +kernel
theorem dX6_init_115 : decode cX6_init 115 = .ok (.iload_n 1, 1) := by decide +kernel
theorem dX6_init_116 : decode cX6_init 116 = .ok (.iconst 5, 1) := by decide +kernel
theorem dX6_init_117 : decode cX6_init 117 = .ok (.if_icmp .ge 22, 3) := by decide +kernel
theorem dX6_init_120 : decode cX6_init 120 = .ok (.aload_n 0, 1) := by decide +kernel
theorem dX6_init_121 : decode cX6_init 121 = .ok (.getfield 47, 3) := by decide +kernel
theorem dX6_init_124 : decode cX6_init 124 = .ok (.iload_n 1, 1) := by decide +kernel
theorem dX6_init_125 : decode cX6_init 125 = .ok (.new 45, 3) := by decide +kernel
theorem dX6_init_128 : decode cX6_init 128 = .ok (.dup, 1) := by decide +kernel
theorem dX6_init_129 : decode cX6_init 129 = .ok (.invokespecial 51, 3) := by decide +kernel
theorem dX6_init_132 : decode cX6_init 132 = .ok (.aastore, 1) := by decide +kernel
theorem dX6_init_133 : decode cX6_init 133 = .ok (.iinc 1 1, 3) := by decide +kernel
theorem dX6_init_136 : decode cX6_init 136 = .ok (.goto (-21), 3) := by decide +kernel
theorem dX6_init_139 : decode cX6_init 139 = .ok (.aload_n 0, 1) := by decide +kernel
theorem dX6_init_140 : decode cX6_init 140 = .ok (.bipush 60, 2) := by decide +kernel
theorem dX6_init_142 : decode cX6_init 142 = .ok (.newarray .int, 2) := by decide +kernel
theorem dX6_init_144 : decode cX6_init 144 = .ok (.putfield 52, 3) := by decide +kernel
theorem dX6_init_147 : decode cX6_init 147 = .ok (.aload_n 0, 1) := by decide +kernel
theorem dX6_init_148 : decode cX6_init 148 = .ok (.bipush 6, 2) := by decide +kernel
theorem dX6_init_150 : decode cX6_init 150 = .ok (.newarray .int, 2) := by decide +kernel
theorem dX6_init_152 : decode cX6_init 152 = .ok (.putfield 56, 3) := by decide +kernel
theorem dX6_init_155 : decode cX6_init 155 = .ok (.return_, 1) := by decide +kernel
theorem dX6_person_0 : decode cX6_person 0 = .ok (.iload_n 1, 1) := by decide +kernel
theorem dX6_person_1 : decode cX6_person 1 = .ok (.invokestatic 59, 3) := by decide +kernel
theorem dX6_person_4 : decode cX6_person 4 = .ok (.ifCond .ne 23, 3) := by decide +kernel
theorem dX6_person_7 : decode cX6_person 7 = .ok (.iload_n 2, 1) := by decide +kernel
theorem dX6_person_8 : decode cX6_person 8 = .ok (.iconst 0, 1) := by decide +kernel
theorem dX6_person_9 : decode cX6_person 9 = .ok (.bipush 7, 2) := by decide +kernel
theorem dX6_person_11 : decode cX6_person 11 = .ok (.invokestatic 63, 3) := by decide +kernel
theorem dX6_person_14 : decode cX6_person 14 = .ok (.ifCond .ne 13, 3) := by decide +kernel
theorem dX6_person_17 : decode cX6_person 17 = .ok (.iload_n 3, 1) := by decide +kernel
theorem dX6_person_18 : decode cX6_person 18 = .ok (.iconst 0, 1) := by decide +kernel
theorem dX6_person_19 : decode cX6_person 19 = .ok (.bipush 9, 2) := by decide +kernel
theorem dX6_person_21 : decode cX6_person 21 = .ok (.invokestatic 63, 3) := by decide +kernel
theorem dX6_person_24 : decode cX6_person 24 = .ok (.ifCond .eq 6, 3) := by decide +kernel
theorem dX6_person_27 : decode cX6_person 27 = .ok (.ldc 67, 2) := by decide +kernel
theorem dX6_person_29 : decode cX6_person 29 = .ok (.ireturn, 1) := by decide +kernel
theorem dX6_person_30 : decode cX6_person 30 = .ok (.aload_n 0, 1) := by decide +kernel
theorem dX6_person_31 : decode cX6_person 31 = .ok (.getfield 28, 3) := by decide +kernel
theorem dX6_person_34 : decode cX6_person 34 = .ok (.getfield 68, 3) := by decide +kernel
theorem dX6_person_37 : decode cX6_person 37 = .ok (.bipush 8, 2) := by decide +kernel
theorem dX6_person_39 : decode cX6_person 39 = .ok (.if_icmp .lt 6, 3) := by decide +kernel
theorem dX6_person_42 : decode cX6_person 42 = .ok (.ldc 72, 2) := by decide +kernel
theorem dX6_person_44 : decode cX6_person 44 = .ok (.ireturn, 1) := by decide +kernel
theorem dX6_person_45 : decode cX6_person 45 = .ok (.aload_n 0, 1) := by decide +kernel
theorem dX6_person_46 : decode cX6_person 46 = .ok (.getfield 28, 3) := by decide +kernel
theorem dX6_person_49 : decode cX6_person 49 = .ok (.iload_n 1, 1) := by decide +kernel
theorem dX6_person_50 : decode cX6_person 50 = .ok (.iload_n 2, 1) := by decide +kernel
theorem dX6_person_51 : decode cX6_person 51 = .ok (.iload_n 3, 1) := by decide +kernel
theorem dX6_person_52 : decode cX6_person 52 = .ok (.invokevirtual 73, 3) := by decide +kernel
theorem dX6_person_55 : decode cX6_person 55 = .ok (.aload_n 0, 1) := by decide +kernel
theorem dX6_person_56 : decode cX6_person 56 = .ok (.getfield 28, 3) := by decide +kernel
theorem dX6_person_59 : decode cX6_person 59 = .ok (.getfield 68, 3) := by decide +kernel
theorem dX6_person_62 : decode cX6_person 62 = .ok (.iconst 1, 1) := by decide +kernel
theorem dX6_person_63 : decode cX6_person 63 = .ok (.isub, 1) := by decide +kernel
theorem dX6_person_64 : decode cX6_person 64 = .ok (.ireturn, 1) := by decide +kernel
theorem dX6_told_0 : decode cX6_told 0 = .ok (.aload_n 0, 1) := by decide +kernel
theorem dX6_told_1 : decode cX6_told 1 = .ok (.iload_n 1, 1) := by decide +kernel
theorem dX6_told_2 : decode cX6_told 2 = .ok (.invokevirtual 77, 3) := by decide +kernel
theorem dX6_told_5 : decode cX6_told 5 = .ok (.ifCond .eq 6, 3) := by decide +kernel
theorem dX6_told_8 : decode cX6_told 8 = .ok (.ldc 67, 2) := by decide +kernel
theorem dX6_told_10 : decode cX6_told 10 = .ok (.ireturn, 1) := by decide +kernel
theorem dX6_told_11 : decode cX6_told 11 = .ok (.iload_n 2, 1) := by decide +kernel
theorem dX6_told_12 : decode cX6_told 12 = .ok (.tableswitch 116 0 6 #[44, 54, 64, 74, 84, 98, 107], 44) := by decide +kernel
theorem dX6_told_56 : decode cX6_told 56 = .ok (.aload_n 0, 1) := by decide +kernel
theorem dX6_told_57 : decode cX6_told 57 = .ok (.getfield 28, 3) := by decide +kernel
theorem dX6_told_60 : decode cX6_told 60 = .ok (.getfield 80, 3) := by decide +kernel
theorem dX6_told_63 : decode cX6_told 63 = .ok (.iload_n 1, 1) := by decide +kernel
theorem dX6_told_64 : decode cX6_told 64 = .ok (.iaload, 1) := by decide +kernel
theorem dX6_told_65 : decode cX6_told 65 = .ok (.ireturn, 1) := by decide +kernel
theorem dX6_told_66 : decode cX6_told 66 = .ok (.aload_n 0, 1) := by decide +kernel
theorem dX6_told_67 : decode cX6_told 67 = .ok (.getfield 28, 3) := by decide +kernel
theorem dX6_told_70 : decode cX6_told 70 = .ok (.getfield 83, 3) := by decide +kernel
theorem dX6_told_73 : decode cX6_told 73 = .ok (.iload_n 1, 1) := by decide +kernel
theorem dX6_told_74 : decode cX6_told 74 = .ok (.iaload, 1) := by decide +kernel
theorem dX6_told_75 : decode cX6_told 75 = .ok (.ireturn, 1) := by decide +kernel
theorem dX6_told_76 : decode cX6_told 76 = .ok (.aload_n 0, 1) := by decide +kernel
theorem dX6_told_77 : decode cX6_told 77 = .ok (.getfield 28, 3) := by decide +kernel
theorem dX6_told_80 : decode cX6_told 80 = .ok (.getfield 86, 3) := by decide +kernel
theorem dX6_told_83 : decode cX6_told 83 = .ok (.iload_n 1, 1) := by decide +kernel
theorem dX6_told_84 : decode cX6_told 84 = .ok (.iaload, 1) := by decide +kernel
theorem dX6_told_85 : decode cX6_told 85 = .ok (.ireturn, 1) := by decide +kernel
theorem dX6_told_86 : decode cX6_told 86 = .ok (.aload_n 0, 1) := by decide +kernel
theorem dX6_told_87 : decode cX6_told 87 = .ok (.getfield 28, 3) := by decide +kernel
theorem dX6_told_90 : decode cX6_told 90 = .ok (.getfield 89, 3) := by decide +kernel
theorem dX6_told_93 : decode cX6_told 93 = .ok (.iload_n 1, 1) := by decide +kernel
theorem dX6_told_94 : decode cX6_told 94 = .ok (.iaload, 1) := by decide +kernel
theorem dX6_told_95 : decode cX6_told 95 = .ok (.ireturn, 1) := by decide +kernel
theorem dX6_told_96 : decode cX6_told 96 = .ok (.getstatic 92, 3) := by decide +kernel
theorem dX6_told_99 : decode cX6_told 99 = .ok (.aload_n 0, 1) := by decide +kernel
theorem dX6_told_100 : decode cX6_told 100 = .ok (.getfield 28, 3) := by decide +kernel
theorem dX6_told_103 : decode cX6_told 103 = .ok (.getfield 80, 3) := by decide +kernel
theorem dX6_told_106 : decode cX6_told 106 = .ok (.iload_n 1, 1) := by decide +kernel
theorem dX6_told_107 : decode cX6_told 107 = .ok (.iaload, 1) := by decide +kernel
theorem dX6_told_108 : decode cX6_told 108 = .ok (.iaload, 1) := by decide +kernel
theorem dX6_told_109 : decode cX6_told 109 = .ok (.ireturn, 1) := by decide +kernel
theorem dX6_told_110 : decode cX6_told 110 = .ok (.aload_n 0, 1) := by decide +kernel
theorem dX6_told_111 : decode cX6_told 111 = .ok (.getfield 28, 3) := by decide +kernel
theorem dX6_told_114 : decode cX6_told 114 = .ok (.iload_n 1, 1) := by decide +kernel
theorem dX6_told_115 : decode cX6_told 115 = .ok (.invokevirtual 95, 3) := by decide +kernel
theorem dX6_told_118 : decode cX6_told 118 = .ok (.ireturn, 1) := by decide +kernel
theorem dX6_told_119 : decode cX6_told 119 = .ok (.aload_n 0, 1) := by decide +kernel
theorem dX6_told_120 : decode cX6_told 120 = .ok (.getfield 28, 3) := by decide +kernel
theorem dX6_told_123 : decode cX6_told 123 = .ok (.iload_n 1, 1) := by decide +kernel
theorem dX6_told_124 : decode cX6_told 124 = .ok (.invokevirtual 99, 3) := by decide +kernel
theorem dX6_told_127 : decode cX6_told 127 = .ok (.ireturn, 1) := by decide +kernel
theorem dX6_told_128 : decode cX6_told 128 = .ok (.ldc 67, 2) := by decide +kernel
theorem dX6_told_130 : decode cX6_told 130 = .ok (.ireturn, 1) := by decide +kernel
theorem dX6_as_0 : decode cX6_as 0 = .ok (.aload_n 0, 1) := by decide +kernel
theorem dX6_as_1 : decode cX6_as 1 = .ok (.iload_n 1, 1) := by decide +kernel
theorem dX6_as_2 : decode cX6_as 2 = .ok (.invokevirtual 77, 3) := by decide +kernel
theorem dX6_as_5 : decode cX6_as 5 = .ok (.ifCond .ne 10, 3) := by decide +kernel
theorem dX6_as_8 : decode cX6_as 8 = .ok (.iload_n 2, 1) := by decide +kernel
theorem dX6_as_9 : decode cX6_as 9 = .ok (.invokestatic 59, 3) := by decide +kernel
theorem dX6_as_12 : decode cX6_as 12 = .ok (.ifCond .eq 6, 3) := by decide +kernel
theorem dX6_as_15 : decode cX6_as 15 = .ok (.ldc 67, 2) := by decide +kernel
theorem dX6_as_17 : decode cX6_as 17 = .ok (.ireturn, 1) := by decide +kernel
theorem dX6_as_18 : decode cX6_as 18 = .ok (.aload_n 0, 1) := by decide +kernel
theorem dX6_as_19 : decode cX6_as 19 = .ok (.getfield 28, 3) := by decide +kernel
theorem dX6_as_22 : decode cX6_as 22 = .ok (.getfield 80, 3) := by decide +kernel
theorem dX6_as_25 : decode cX6_as 25 = .ok (.iload_n 1, 1) := by decide +kernel
theorem dX6_as_26 : decode cX6_as 26 = .ok (.iaload, 1) := by decide +kernel
theorem dX6_as_27 : decode cX6_as 27 = .ok (.iload_n 2, 1) := by decide +kernel
theorem dX6_as_28 : decode cX6_as 28 = .ok (.invokestatic 102, 3) := by decide +kernel
theorem dX6_as_31 : decode cX6_as 31 = .ok (.ifCond .eq 15, 3) := by decide +kernel
theorem dX6_as_34 : decode cX6_as 34 = .ok (.aload_n 0, 1) := by decide +kernel
theorem dX6_as_35 : decode cX6_as 35 = .ok (.getfield 28, 3) := by decide +kernel
theorem dX6_as_38 : decode cX6_as 38 = .ok (.getfield 89, 3) := by decide +kernel
theorem dX6_as_41 : decode cX6_as 41 = .ok (.iload_n 1, 1) := by decide +kernel
theorem dX6_as_42 : decode cX6_as 42 = .ok (.iaload, 1) := by decide +kernel
theorem dX6_as_43 : decode cX6_as 43 = .ok (.goto 5, 3) := by decide +kernel
theorem dX6_as_46 : decode cX6_as 46 = .ok (.ldc 106, 2) := by decide +kernel
theorem dX6_as_48 : decode cX6_as 48 = .ok (.ireturn, 1) := by decide +kernel
theorem dX6_turns_0 : decode cX6_turns 0 = .ok (.aload_n 0, 1) := by decide +kernel
theorem dX6_turns_1 : decode cX6_turns 1 = .ok (.iload_n 1, 1) := by decide +kernel
theorem dX6_turns_2 : decode cX6_turns 2 = .ok (.invokevirtual 77, 3) := by decide +kernel
theorem dX6_turns_5 : decode cX6_turns 5 = .ok (.ifCond .ne 10, 3) := by decide +kernel
theorem dX6_turns_8 : decode cX6_turns 8 = .ok (.iload_n 2, 1) := by decide +kernel
theorem dX6_turns_9 : decode cX6_turns 9 = .ok (.invokestatic 59, 3) := by decide +kernel
theorem dX6_turns_12 : decode cX6_turns 12 = .ok (.ifCond .eq 6, 3) := by decide +kernel
theorem dX6_turns_15 : decode cX6_turns 15 = .ok (.ldc 67, 2) := by decide +kernel
theorem dX6_turns_17 : decode cX6_turns 17 = .ok (.ireturn, 1) := by decide +kernel
theorem dX6_turns_18 : decode cX6_turns 18 = .ok (.aload_n 0, 1) := by decide +kernel
theorem dX6_turns_19 : decode cX6_turns 19 = .ok (.getfield 28, 3) := by decide +kernel
theorem dX6_turns_22 : decode cX6_turns 22 = .ok (.getfield 80, 3) := by decide +kernel
theorem dX6_turns_25 : decode cX6_turns 25 = .ok (.iload_n 1, 1) := by decide +kernel
theorem dX6_turns_26 : decode cX6_turns 26 = .ok (.iaload, 1) := by decide +kernel
theorem dX6_turns_27 : decode cX6_turns 27 = .ok (.istore_n 3, 1) := by decide +kernel
theorem dX6_turns_28 : decode cX6_turns 28 = .ok (.aload_n 0, 1) := by decide +kernel
theorem dX6_turns_29 : decode cX6_turns 29 = .ok (.getfield 28, 3) := by decide +kernel
theorem dX6_turns_32 : decode cX6_turns 32 = .ok (.getfield 80, 3) := by decide +kernel
theorem dX6_turns_35 : decode cX6_turns 35 = .ok (.iload_n 1, 1) := by decide +kernel
theorem dX6_turns_36 : decode cX6_turns 36 = .ok (.iload_n 2, 1) := by decide +kernel
theorem dX6_turns_37 : decode cX6_turns 37 = .ok (.iastore, 1) := by decide +kernel
theorem dX6_turns_38 : decode cX6_turns 38 = .ok (.iload_n 3, 1) := by decide +kernel
theorem dX6_turns_39 : decode cX6_turns 39 = .ok (.ireturn, 1) := by decide +kernel
theorem dX6_set_0 : decode cX6_set 0 = .ok (.aload_n 0, 1) := by decide +kernel
theorem dX6_set_1 : decode cX6_set 1 = .ok (.iload_n 1, 1) := by decide +kernel
theorem dX6_set_2 : decode cX6_set 2 = .ok (.invokevirtual 77, 3) := by decide +kernel
theorem dX6_set_5 : decode cX6_set 5 = .ok (.ifCond .eq 6, 3) := by decide +kernel
theorem dX6_set_8 : decode cX6_set 8 = .ok (.ldc 67, 2) := by decide +kernel
theorem dX6_set_10 : decode cX6_set 10 = .ok (.ireturn, 1) := by decide +kernel
theorem dX6_set_11 : decode cX6_set 11 = .ok (.iload_n 2, 1) := by decide +kernel
theorem dX6_set_12 : decode cX6_set 12 = .ok (.tableswitch 73 1 3 #[28, 43, 58], 28) := by decide +kernel
theorem dX6_set_40 : decode cX6_set 40 = .ok (.aload_n 0, 1) := by decide +kernel
theorem dX6_set_41 : decode cX6_set 41 = .ok (.getfield 28, 3) := by decide +kernel
theorem dX6_set_44 : decode cX6_set 44 = .ok (.getfield 83, 3) := by decide +kernel
theorem dX6_set_47 : decode cX6_set 47 = .ok (.iload_n 1, 1) := by decide +kernel
theorem dX6_set_48 : decode cX6_set 48 = .ok (.iload_n 3, 1) := by decide +kernel
theorem dX6_set_49 : decode cX6_set 49 = .ok (.bipush 7, 2) := by decide +kernel
theorem dX6_set_51 : decode cX6_set 51 = .ok (.invokestatic 107, 3) := by decide +kernel
theorem dX6_set_54 : decode cX6_set 54 = .ok (.ireturn, 1) := by decide +kernel
theorem dX6_set_55 : decode cX6_set 55 = .ok (.aload_n 0, 1) := by decide +kernel
theorem dX6_set_56 : decode cX6_set 56 = .ok (.getfield 28, 3) := by decide +kernel
theorem dX6_set_59 : decode cX6_set 59 = .ok (.getfield 86, 3) := by decide +kernel
theorem dX6_set_62 : decode cX6_set 62 = .ok (.iload_n 1, 1) := by decide +kernel
theorem dX6_set_63 : decode cX6_set 63 = .ok (.iload_n 3, 1) := by decide +kernel
theorem dX6_set_64 : decode cX6_set 64 = .ok (.bipush 9, 2) := by decide +kernel
theorem dX6_set_66 : decode cX6_set 66 = .ok (.invokestatic 107, 3) := by decide +kernel
theorem dX6_set_69 : decode cX6_set 69 = .ok (.ireturn, 1) := by decide +kernel
theorem dX6_set_70 : decode cX6_set 70 = .ok (.aload_n 0, 1) := by decide +kernel
theorem dX6_set_71 : decode cX6_set 71 = .ok (.getfield 28, 3) := by decide +kernel
theorem dX6_set_74 : decode cX6_set 74 = .ok (.getfield 89, 3) := by decide +kernel
theorem dX6_set_77 : decode cX6_set 77 = .ok (.iload_n 1, 1) := by decide +kernel
theorem dX6_set_78 : decode cX6_set 78 = .ok (.iload_n 3, 1) := by decide +kernel
theorem dX6_set_79 : decode cX6_set 79 = .ok (.bipush 99, 2) := by decide +kernel
theorem dX6_set_81 : decode cX6_set 81 = .ok (.invokestatic 107, 3) := by decide +kernel
theorem dX6_set_84 : decode cX6_set 84 = .ok (.ireturn, 1) := by decide +kernel
theorem dX6_set_85 : decode cX6_set 85 = .ok (.ldc 67, 2) := by decide +kernel
theorem dX6_set_87 : decode cX6_set 87 = .ok (.ireturn, 1) := by decide +kernel
theorem dX6_thought_0 : decode cX6_thought 0 = .ok (.aload_n 0, 1) := by decide +kernel
theorem dX6_thought_1 : decode cX6_thought 1 = .ok (.iload_n 1, 1) := by decide +kernel
theorem dX6_thought_2 : decode cX6_thought 2 = .ok (.invokevirtual 77, 3) := by decide +kernel
theorem dX6_thought_5 : decode cX6_thought 5 = .ok (.ifCond .ne 10, 3) := by decide +kernel
theorem dX6_thought_8 : decode cX6_thought 8 = .ok (.iload_n 2, 1) := by decide +kernel
theorem dX6_thought_9 : decode cX6_thought 9 = .ok (.invokestatic 111, 3) := by decide +kernel
theorem dX6_thought_12 : decode cX6_thought 12 = .ok (.ifCond .eq 6, 3) := by decide +kernel
theorem dX6_thought_15 : decode cX6_thought 15 = .ok (.ldc 67, 2) := by decide +kernel
theorem dX6_thought_17 : decode cX6_thought 17 = .ok (.ireturn, 1) := by decide +kernel
theorem dX6_thought_18 : decode cX6_thought 18 = .ok (.aload_n 0, 1) := by decide +kernel
theorem dX6_thought_19 : decode cX6_thought 19 = .ok (.getfield 28, 3) := by decide +kernel
theorem dX6_thought_22 : decode cX6_thought 22 = .ok (.iload_n 1, 1) := by decide +kernel
theorem dX6_thought_23 : decode cX6_thought 23 = .ok (.iload_n 2, 1) := by decide +kernel
theorem dX6_thought_24 : decode cX6_thought 24 = .ok (.invokevirtual 114, 3) := by decide +kernel
theorem dX6_thought_27 : decode cX6_thought 27 = .ok (.ireturn, 1) := by decide +kernel
theorem dX6_lets_0 : decode cX6_lets 0 = .ok (.aload_n 0, 1) := by decide +kernel
theorem dX6_lets_1 : decode cX6_lets 1 = .ok (.iload_n 1, 1) := by decide +kernel
theorem dX6_lets_2 : decode cX6_lets 2 = .ok (.invokevirtual 77, 3) := by decide +kernel
theorem dX6_lets_5 : decode cX6_lets 5 = .ok (.ifCond .ne 20, 3) := by decide +kernel
theorem dX6_lets_8 : decode cX6_lets 8 = .ok (.iload_n 2, 1) := by decide +kernel
theorem dX6_lets_9 : decode cX6_lets 9 = .ok (.invokestatic 111, 3) := by decide +kernel
theorem dX6_lets_12 : decode cX6_lets 12 = .ok (.ifCond .ne 13, 3) := by decide +kernel
theorem dX6_lets_15 : decode cX6_lets 15 = .ok (.iload_n 3, 1) := by decide +kernel
theorem dX6_lets_16 : decode cX6_lets 16 = .ok (.iconst 0, 1) := by decide +kernel
theorem dX6_lets_17 : decode cX6_lets 17 = .ok (.bipush 9, 2) := by decide +kernel
theorem dX6_lets_19 : decode cX6_lets 19 = .ok (.invokestatic 63, 3) := by decide +kernel
theorem dX6_lets_22 : decode cX6_lets 22 = .ok (.ifCond .eq 6, 3) := by decide +kernel
theorem dX6_lets_25 : decode cX6_lets 25 = .ok (.ldc 67, 2) := by decide +kernel
theorem dX6_lets_27 : decode cX6_lets 27 = .ok (.ireturn, 1) := by decide +kernel
theorem dX6_lets_28 : decode cX6_lets 28 = .ok (.aload_n 0, 1) := by decide +kernel
theorem dX6_lets_29 : decode cX6_lets 29 = .ok (.getfield 28, 3) := by decide +kernel
theorem dX6_lets_32 : decode cX6_lets 32 = .ok (.iload_n 1, 1) := by decide +kernel
theorem dX6_lets_33 : decode cX6_lets 33 = .ok (.iload_n 2, 1) := by decide +kernel
theorem dX6_lets_34 : decode cX6_lets 34 = .ok (.invokevirtual 114, 3) := by decide +kernel
theorem dX6_lets_37 : decode cX6_lets 37 = .ok (.istore 4, 2) := by decide +kernel
theorem dX6_lets_39 : decode cX6_lets 39 = .ok (.aload_n 0, 1) := by decide +kernel
theorem dX6_lets_40 : decode cX6_lets 40 = .ok (.getfield 28, 3) := by decide +kernel
theorem dX6_lets_43 : decode cX6_lets 43 = .ok (.iload_n 1, 1) := by decide +kernel
theorem dX6_lets_44 : decode cX6_lets 44 = .ok (.iload_n 2, 1) := by decide +kernel
theorem dX6_lets_45 : decode cX6_lets 45 = .ok (.iload_n 3, 1) := by decide +kernel
theorem dX6_lets_46 : decode cX6_lets 46 = .ok (.invokevirtual 118, 3) := by decide +kernel
theorem dX6_lets_49 : decode cX6_lets 49 = .ok (.iload 4, 2) := by decide +kernel
theorem dX6_lets_51 : decode cX6_lets 51 = .ok (.ireturn, 1) := by decide +kernel
theorem dX6_says_0 : decode cX6_says 0 = .ok (.aload_n 0, 1) := by decide +kernel
theorem dX6_says_1 : decode cX6_says 1 = .ok (.iload_n 1, 1) := by decide +kernel
theorem dX6_says_2 : decode cX6_says 2 = .ok (.invokevirtual 77, 3) := by decide +kernel
theorem dX6_says_5 : decode cX6_says 5 = .ok (.ifCond .ne 10, 3) := by decide +kernel
theorem dX6_says_8 : decode cX6_says 8 = .ok (.iload_n 2, 1) := by decide +kernel
theorem dX6_says_9 : decode cX6_says 9 = .ok (.invokestatic 111, 3) := by decide +kernel
theorem dX6_says_12 : decode cX6_says 12 = .ok (.ifCond .eq 6, 3) := by decide +kernel
theorem dX6_says_15 : decode cX6_says 15 = .ok (.ldc 67, 2) := by decide +kernel
theorem dX6_says_17 : decode cX6_says 17 = .ok (.ireturn, 1) := by decide +kernel
theorem dX6_says_18 : decode cX6_says 18 = .ok (.aload_n 0, 1) := by decide +kernel
theorem dX6_says_19 : decode cX6_says 19 = .ok (.getfield 28, 3) := by decide +kernel
theorem dX6_says_22 : decode cX6_says 22 = .ok (.iload_n 1, 1) := by decide +kernel
theorem dX6_says_23 : decode cX6_says 23 = .ok (.iload_n 2, 1) := by decide +kernel
theorem dX6_says_24 : decode cX6_says 24 = .ok (.invokevirtual 121, 3) := by decide +kernel
theorem dX6_says_27 : decode cX6_says 27 = .ok (.ireturn, 1) := by decide +kernel
theorem dX6_heeds_0 : decode cX6_heeds 0 = .ok (.aload_n 0, 1) := by decide +kernel
theorem dX6_heeds_1 : decode cX6_heeds 1 = .ok (.iload_n 1, 1) := by decide +kernel
theorem dX6_heeds_2 : decode cX6_heeds 2 = .ok (.invokevirtual 77, 3) := by decide +kernel
theorem dX6_heeds_5 : decode cX6_heeds 5 = .ok (.ifCond .ne 20, 3) := by decide +kernel
theorem dX6_heeds_8 : decode cX6_heeds 8 = .ok (.iload_n 2, 1) := by decide +kernel
theorem dX6_heeds_9 : decode cX6_heeds 9 = .ok (.invokestatic 111, 3) := by decide +kernel
theorem dX6_heeds_12 : decode cX6_heeds 12 = .ok (.ifCond .ne 13, 3) := by decide +kernel
theorem dX6_heeds_15 : decode cX6_heeds 15 = .ok (.iload_n 3, 1) := by decide +kernel
theorem dX6_heeds_16 : decode cX6_heeds 16 = .ok (.iconst 1, 1) := by decide +kernel
theorem dX6_heeds_17 : decode cX6_heeds 17 = .ok (.bipush 9, 2) := by decide +kernel
theorem dX6_heeds_19 : decode cX6_heeds 19 = .ok (.invokestatic 63, 3) := by decide +kernel
theorem dX6_heeds_22 : decode cX6_heeds 22 = .ok (.ifCond .eq 6, 3) := by decide +kernel
theorem dX6_heeds_25 : decode cX6_heeds 25 = .ok (.ldc 67, 2) := by decide +kernel
theorem dX6_heeds_27 : decode cX6_heeds 27 = .ok (.ireturn, 1) := by decide +kernel
theorem dX6_heeds_28 : decode cX6_heeds 28 = .ok (.aload_n 0, 1) := by decide +kernel
theorem dX6_heeds_29 : decode cX6_heeds 29 = .ok (.getfield 28, 3) := by decide +kernel
theorem dX6_heeds_32 : decode cX6_heeds 32 = .ok (.iload_n 1, 1) := by decide +kernel
theorem dX6_heeds_33 : decode cX6_heeds 33 = .ok (.iload_n 2, 1) := by decide +kernel
theorem dX6_heeds_34 : decode cX6_heeds 34 = .ok (.iload_n 3, 1) := by decide +kernel
theorem dX6_heeds_35 : decode cX6_heeds 35 = .ok (.invokevirtual 124, 3) := by decide +kernel
theorem dX6_heeds_38 : decode cX6_heeds 38 = .ok (.ireturn, 1) := by decide +kernel
theorem dX6_sow_0 : decode cX6_sow 0 = .ok (.iload_n 1, 1) := by decide +kernel
theorem dX6_sow_1 : decode cX6_sow 1 = .ok (.invokestatic 111, 3) := by decide +kernel
theorem dX6_sow_4 : decode cX6_sow 4 = .ok (.ifCond .ne 13, 3) := by decide +kernel
theorem dX6_sow_7 : decode cX6_sow 7 = .ok (.iload_n 2, 1) := by decide +kernel
theorem dX6_sow_8 : decode cX6_sow 8 = .ok (.iconst 0, 1) := by decide +kernel
theorem dX6_sow_9 : decode cX6_sow 9 = .ok (.bipush 9, 2) := by decide +kernel
theorem dX6_sow_11 : decode cX6_sow 11 = .ok (.invokestatic 63, 3) := by decide +kernel
theorem dX6_sow_14 : decode cX6_sow 14 = .ok (.ifCond .eq 6, 3) := by decide +kernel
theorem dX6_sow_17 : decode cX6_sow 17 = .ok (.ldc 67, 2) := by decide +kernel
theorem dX6_sow_19 : decode cX6_sow 19 = .ok (.ireturn, 1) := by decide +kernel
theorem dX6_sow_20 : decode cX6_sow 20 = .ok (.aload_n 0, 1) := by decide +kernel
theorem dX6_sow_21 : decode cX6_sow 21 = .ok (.getfield 28, 3) := by decide +kernel
theorem dX6_sow_24 : decode cX6_sow 24 = .ok (.getfield 128, 3) := by decide +kernel
theorem dX6_sow_27 : decode cX6_sow 27 = .ok (.iload_n 1, 1) := by decide +kernel
theorem dX6_sow_28 : decode cX6_sow 28 = .ok (.iaload, 1) := by decide +kernel
theorem dX6_sow_29 : decode cX6_sow 29 = .ok (.istore_n 3, 1) := by decide +kernel
theorem dX6_sow_30 : decode cX6_sow 30 = .ok (.aload_n 0, 1) := by decide +kernel
theorem dX6_sow_31 : decode cX6_sow 31 = .ok (.getfield 28, 3) := by decide +kernel
theorem dX6_sow_34 : decode cX6_sow 34 = .ok (.getfield 128, 3) := by decide +kernel
theorem dX6_sow_37 : decode cX6_sow 37 = .ok (.iload_n 1, 1) := by decide +kernel
theorem dX6_sow_38 : decode cX6_sow 38 = .ok (.iload_n 2, 1) := by decide +kernel
theorem dX6_sow_39 : decode cX6_sow 39 = .ok (.iastore, 1) := by decide +kernel
theorem dX6_sow_40 : decode cX6_sow 40 = .ok (.iload_n 3, 1) := by decide +kernel
theorem dX6_sow_41 : decode cX6_sow 41 = .ok (.ireturn, 1) := by decide +kernel
theorem dX6_field_0 : decode cX6_field 0 = .ok (.iload_n 1, 1) := by decide +kernel
theorem dX6_field_1 : decode cX6_field 1 = .ok (.invokestatic 111, 3) := by decide +kernel
theorem dX6_field_4 : decode cX6_field 4 = .ok (.ifCond .eq 6, 3) := by decide +kernel
theorem dX6_field_7 : decode cX6_field 7 = .ok (.ldc 67, 2) := by decide +kernel
theorem dX6_field_9 : decode cX6_field 9 = .ok (.ireturn, 1) := by decide +kernel
theorem dX6_field_10 : decode cX6_field 10 = .ok (.aload_n 0, 1) := by decide +kernel
theorem dX6_field_11 : decode cX6_field 11 = .ok (.getfield 28, 3) := by decide +kernel
theorem dX6_field_14 : decode cX6_field 14 = .ok (.iload_n 1, 1) := by decide +kernel
theorem dX6_field_15 : decode cX6_field 15 = .ok (.invokevirtual 131, 3) := by decide +kernel
theorem dX6_field_18 : decode cX6_field 18 = .ok (.istore_n 3, 1) := by decide +kernel
theorem dX6_field_19 : decode cX6_field 19 = .ok (.iload_n 2, 1) := by decide +kernel
theorem dX6_field_20 : decode cX6_field 20 = .ok (.tableswitch 78 0 4 #[36, 46, 56, 58, 68], 36) := by decide +kernel
theorem dX6_field_56 : decode cX6_field 56 = .ok (.aload_n 0, 1) := by decide +kernel
theorem dX6_field_57 : decode cX6_field 57 = .ok (.getfield 28, 3) := by decide +kernel
theorem dX6_field_60 : decode cX6_field 60 = .ok (.getfield 128, 3) := by decide +kernel
theorem dX6_field_63 : decode cX6_field 63 = .ok (.iload_n 1, 1) := by decide +kernel
theorem dX6_field_64 : decode cX6_field 64 = .ok (.iaload, 1) := by decide +kernel
theorem dX6_field_65 : decode cX6_field 65 = .ok (.ireturn, 1) := by decide +kernel
theorem dX6_field_66 : decode cX6_field 66 = .ok (.aload_n 0, 1) := by decide +kernel
theorem dX6_field_67 : decode cX6_field 67 = .ok (.getfield 28, 3) := by decide +kernel
theorem dX6_field_70 : decode cX6_field 70 = .ok (.getfield 134, 3) := by decide +kernel
theorem dX6_field_73 : decode cX6_field 73 = .ok (.iload_n 1, 1) := by decide +kernel
theorem dX6_field_74 : decode cX6_field 74 = .ok (.iaload, 1) := by decide +kernel
theorem dX6_field_75 : decode cX6_field 75 = .ok (.ireturn, 1) := by decide +kernel
theorem dX6_field_76 : decode cX6_field 76 = .ok (.iload_n 3, 1) := by decide +kernel
theorem dX6_field_77 : decode cX6_field 77 = .ok (.ireturn, 1) := by decide +kernel
theorem dX6_field_78 : decode cX6_field 78 = .ok (.aload_n 0, 1) := by decide +kernel
theorem dX6_field_79 : decode cX6_field 79 = .ok (.getfield 28, 3) := by decide +kernel
theorem dX6_field_82 : decode cX6_field 82 = .ok (.iload_n 1, 1) := by decide +kernel
theorem dX6_field_83 : decode cX6_field 83 = .ok (.iload_n 3, 1) := by decide +kernel
theorem dX6_field_84 : decode cX6_field 84 = .ok (.invokevirtual 137, 3) := by decide +kernel
theorem dX6_field_87 : decode cX6_field 87 = .ok (.ireturn, 1) := by decide +kernel
theorem dX6_field_88 : decode cX6_field 88 = .ok (.aload_n 0, 1) := by decide +kernel
theorem dX6_field_89 : decode cX6_field 89 = .ok (.getfield 28, 3) := by decide +kernel
theorem dX6_field_92 : decode cX6_field 92 = .ok (.iload_n 1, 1) := by decide +kernel
theorem dX6_field_93 : decode cX6_field 93 = .ok (.iload_n 3, 1) := by decide +kernel
theorem dX6_field_94 : decode cX6_field 94 = .ok (.invokevirtual 140, 3) := by decide +kernel
theorem dX6_field_97 : decode cX6_field 97 = .ok (.ireturn, 1) := by decide +kernel
theorem dX6_field_98 : decode cX6_field 98 = .ok (.ldc 67, 2) := by decide +kernel
theorem dX6_field_100 : decode cX6_field 100 = .ok (.ireturn, 1) := by decide +kernel
theorem dX6_votes_0 : decode cX6_votes 0 = .ok (.iload_n 1, 1) := by decide +kernel
theorem dX6_votes_1 : decode cX6_votes 1 = .ok (.invokestatic 111, 3) := by decide +kernel
theorem dX6_votes_4 : decode cX6_votes 4 = .ok (.ifCond .ne 13, 3) := by decide +kernel
theorem dX6_votes_7 : decode cX6_votes 7 = .ok (.iload_n 2, 1) := by decide +kernel
theorem dX6_votes_8 : decode cX6_votes 8 = .ok (.iconst 1, 1) := by decide +kernel
theorem dX6_votes_9 : decode cX6_votes 9 = .ok (.bipush 9, 2) := by decide +kernel
theorem dX6_votes_11 : decode cX6_votes 11 = .ok (.invokestatic 63, 3) := by decide +kernel
theorem dX6_votes_14 : decode cX6_votes 14 = .ok (.ifCond .eq 6, 3) := by decide +kernel
theorem dX6_votes_17 : decode cX6_votes 17 = .ok (.ldc 67, 2) := by decide +kernel
theorem dX6_votes_19 : decode cX6_votes 19 = .ok (.ireturn, 1) := by decide +kernel
theorem dX6_votes_20 : decode cX6_votes 20 = .ok (.aload_n 0, 1) := by decide +kernel
theorem dX6_votes_21 : decode cX6_votes 21 = .ok (.getfield 28, 3) := by decide +kernel
theorem dX6_votes_24 : decode cX6_votes 24 = .ok (.iload_n 1, 1) := by decide +kernel
theorem dX6_votes_25 : decode cX6_votes 25 = .ok (.iload_n 2, 1) := by decide +kernel
theorem dX6_votes_26 : decode cX6_votes 26 = .ok (.invokevirtual 137, 3) := by decide +kernel
theorem dX6_votes_29 : decode cX6_votes 29 = .ok (.ireturn, 1) := by decide +kernel
theorem dX6_deal_0 : decode cX6_deal 0 = .ok (.iload_n 1, 1) := by decide +kernel
theorem dX6_deal_1 : decode cX6_deal 1 = .ok (.iconst 1, 1) := by decide +kernel
theorem dX6_deal_2 : decode cX6_deal 2 = .ok (.bipush 8, 2) := by decide +kernel
theorem dX6_deal_4 : decode cX6_deal 4 = .ok (.invokestatic 63, 3) := by decide +kernel
theorem dX6_deal_7 : decode cX6_deal 7 = .ok (.ifCond .eq 6, 3) := by decide +kernel
theorem dX6_deal_10 : decode cX6_deal 10 = .ok (.ldc 67, 2) := by decide +kernel
theorem dX6_deal_12 : decode cX6_deal 12 = .ok (.ireturn, 1) := by decide +kernel
theorem dX6_deal_13 : decode cX6_deal 13 = .ok (.iload_n 1, 1) := by decide +kernel
theorem dX6_deal_14 : decode cX6_deal 14 = .ok (.bipush 8, 2) := by decide +kernel
theorem dX6_deal_16 : decode cX6_deal 16 = .ok (.aload_n 0, 1) := by decide +kernel
theorem dX6_deal_17 : decode cX6_deal 17 = .ok (.getfield 28, 3) := by decide +kernel
theorem dX6_deal_20 : decode cX6_deal 20 = .ok (.getfield 68, 3) := by decide +kernel
theorem dX6_deal_23 : decode cX6_deal 23 = .ok (.isub, 1) := by decide +kernel
theorem dX6_deal_24 : decode cX6_deal 24 = .ok (.invokestatic 143, 3) := by decide +kernel
theorem dX6_deal_27 : decode cX6_deal 27 = .ok (.istore_n 2, 1) := by decide +kernel
theorem dX6_deal_28 : decode cX6_deal 28 = .ok (.iconst 0, 1) := by decide +kernel
theorem dX6_deal_29 : decode cX6_deal 29 = .ok (.istore_n 3, 1) := by decide +kernel
theorem dX6_deal_30 : decode cX6_deal 30 = .ok (.iload_n 3, 1) := by decide +kernel
theorem dX6_deal_31 : decode cX6_deal 31 = .ok (.iload_n 2, 1) := by decide +kernel
theorem dX6_deal_32 : decode cX6_deal 32 = .ok (.if_icmp .ge 16, 3) := by decide +kernel
theorem dX6_deal_35 : decode cX6_deal 35 = .ok (.aload_n 0, 1) := by decide +kernel
theorem dX6_deal_36 : decode cX6_deal 36 = .ok (.getfield 28, 3) := by decide +kernel
theorem dX6_deal_39 : decode cX6_deal 39 = .ok (.invokevirtual 148, 3) := by decide +kernel
theorem dX6_deal_42 : decode cX6_deal 42 = .ok (.iinc 3 1, 3) := by decide +kernel
theorem dX6_deal_45 : decode cX6_deal 45 = .ok (.goto (-15), 3) := by decide +kernel
theorem dX6_deal_48 : decode cX6_deal 48 = .ok (.iload_n 2, 1) := by decide +kernel
theorem dX6_deal_49 : decode cX6_deal 49 = .ok (.ireturn, 1) := by decide +kernel
theorem dX6_seed_0 : decode cX6_seed 0 = .ok (.aload_n 0, 1) := by decide +kernel
theorem dX6_seed_1 : decode cX6_seed 1 = .ok (.getfield 28, 3) := by decide +kernel
theorem dX6_seed_4 : decode cX6_seed 4 = .ok (.getfield 151, 3) := by decide +kernel
theorem dX6_seed_7 : decode cX6_seed 7 = .ok (.istore_n 2, 1) := by decide +kernel
theorem dX6_seed_8 : decode cX6_seed 8 = .ok (.aload_n 0, 1) := by decide +kernel
theorem dX6_seed_9 : decode cX6_seed 9 = .ok (.getfield 28, 3) := by decide +kernel
theorem dX6_seed_12 : decode cX6_seed 12 = .ok (.iload_n 1, 1) := by decide +kernel
theorem dX6_seed_13 : decode cX6_seed 13 = .ok (.putfield 151, 3) := by decide +kernel
theorem dX6_seed_16 : decode cX6_seed 16 = .ok (.iload_n 2, 1) := by decide +kernel
theorem dX6_seed_17 : decode cX6_seed 17 = .ok (.ireturn, 1) := by decide +kernel
theorem dX6_weeks_0 : decode cX6_weeks 0 = .ok (.iload_n 1, 1) := by decide +kernel
theorem dX6_weeks_1 : decode cX6_weeks 1 = .ok (.iconst 1, 1) := by decide +kernel
theorem dX6_weeks_2 : decode cX6_weeks 2 = .ok (.bipush 100, 2) := by decide +kernel
theorem dX6_weeks_4 : decode cX6_weeks 4 = .ok (.invokestatic 63, 3) := by decide +kernel
theorem dX6_weeks_7 : decode cX6_weeks 7 = .ok (.ifCond .eq 6, 3) := by decide +kernel
theorem dX6_weeks_10 : decode cX6_weeks 10 = .ok (.ldc 67, 2) := by decide +kernel
theorem dX6_weeks_12 : decode cX6_weeks 12 = .ok (.ireturn, 1) := by decide +kernel
theorem dX6_weeks_13 : decode cX6_weeks 13 = .ok (.aload_n 0, 1) := by decide +kernel
theorem dX6_weeks_14 : decode cX6_weeks 14 = .ok (.getfield 28, 3) := by decide +kernel
theorem dX6_weeks_17 : decode cX6_weeks 17 = .ok (.getfield 154, 3) := by decide +kernel
theorem dX6_weeks_20 : decode cX6_weeks 20 = .ok (.istore_n 2, 1) := by decide +kernel
theorem dX6_weeks_21 : decode cX6_weeks 21 = .ok (.aload_n 0, 1) := by decide +kernel
theorem dX6_weeks_22 : decode cX6_weeks 22 = .ok (.getfield 28, 3) := by decide +kernel
theorem dX6_weeks_25 : decode cX6_weeks 25 = .ok (.iload_n 1, 1) := by decide +kernel
theorem dX6_weeks_26 : decode cX6_weeks 26 = .ok (.sipush 9999, 3) := by decide +kernel
theorem dX6_weeks_29 : decode cX6_weeks 29 = .ok (.aload_n 0, 1) := by decide +kernel
theorem dX6_weeks_30 : decode cX6_weeks 30 = .ok (.getfield 28, 3) := by decide +kernel
theorem dX6_weeks_33 : decode cX6_weeks 33 = .ok (.getfield 157, 3) := by decide +kernel
theorem dX6_weeks_36 : decode cX6_weeks 36 = .ok (.isub, 1) := by decide +kernel
theorem dX6_weeks_37 : decode cX6_weeks 37 = .ok (.invokestatic 143, 3) := by decide +kernel
theorem dX6_weeks_40 : decode cX6_weeks 40 = .ok (.invokevirtual 160, 3) := by decide +kernel
theorem dX6_weeks_43 : decode cX6_weeks 43 = .ok (.aload_n 0, 1) := by decide +kernel
theorem dX6_weeks_44 : decode cX6_weeks 44 = .ok (.getfield 28, 3) := by decide +kernel
theorem dX6_weeks_47 : decode cX6_weeks 47 = .ok (.getfield 154, 3) := by decide +kernel
theorem dX6_weeks_50 : decode cX6_weeks 50 = .ok (.iload_n 2, 1) := by decide +kernel
theorem dX6_weeks_51 : decode cX6_weeks 51 = .ok (.isub, 1) := by decide +kernel
theorem dX6_weeks_52 : decode cX6_weeks 52 = .ok (.ireturn, 1) := by decide +kernel
theorem dX6_county_0 : decode cX6_county 0 = .ok (.iload_n 1, 1) := by decide +kernel
theorem dX6_county_1 : decode cX6_county 1 = .ok (.tableswitch 75 0 4 #[35, 43, 51, 59, 67], 35) := by decide +kernel
theorem dX6_county_36 : decode cX6_county 36 = .ok (.aload_n 0, 1) := by decide +kernel
theorem dX6_county_37 : decode cX6_county 37 = .ok (.getfield 28, 3) := by decide +kernel
theorem dX6_county_40 : decode cX6_county 40 = .ok (.getfield 154, 3) := by decide +kernel
theorem dX6_county_43 : decode cX6_county 43 = .ok (.ireturn, 1) := by decide +kernel
theorem dX6_county_44 : decode cX6_county 44 = .ok (.aload_n 0, 1) := by decide +kernel
theorem dX6_county_45 : decode cX6_county 45 = .ok (.getfield 28, 3) := by decide +kernel
theorem dX6_county_48 : decode cX6_county 48 = .ok (.getfield 164, 3) := by decide +kernel
theorem dX6_county_51 : decode cX6_county 51 = .ok (.ireturn, 1) := by decide +kernel
theorem dX6_county_52 : decode cX6_county 52 = .ok (.aload_n 0, 1) := by decide +kernel
theorem dX6_county_53 : decode cX6_county 53 = .ok (.getfield 28, 3) := by decide +kernel
theorem dX6_county_56 : decode cX6_county 56 = .ok (.getfield 167, 3) := by decide +kernel
theorem dX6_county_59 : decode cX6_county 59 = .ok (.ireturn, 1) := by decide +kernel
theorem dX6_county_60 : decode cX6_county 60 = .ok (.aload_n 0, 1) := by decide +kernel
theorem dX6_county_61 : decode cX6_county 61 = .ok (.getfield 28, 3) := by decide +kernel
theorem dX6_county_64 : decode cX6_county 64 = .ok (.invokevirtual 170, 3) := by decide +kernel
theorem dX6_county_67 : decode cX6_county 67 = .ok (.ireturn, 1) := by decide +kernel
theorem dX6_county_68 : decode cX6_county 68 = .ok (.aload_n 0, 1) := by decide +kernel
theorem dX6_county_69 : decode cX6_county 69 = .ok (.getfield 28, 3) := by decide +kernel
theorem dX6_county_72 : decode cX6_county 72 = .ok (.invokevirtual 174, 3) := by decide +kernel
theorem dX6_county_75 : decode cX6_county 75 = .ok (.ireturn, 1) := by decide +kernel
theorem dX6_county_76 : decode cX6_county 76 = .ok (.ldc 67, 2) := by decide +kernel
theorem dX6_county_78 : decode cX6_county 78 = .ok (.ireturn, 1) := by decide +kernel
theorem dX6_behind_0 : decode cX6_behind 0 = .ok (.iload_n 1, 1) := by decide +kernel
theorem dX6_behind_1 : decode cX6_behind 1 = .ok (.iconst 0, 1) := by decide +kernel
theorem dX6_behind_2 : decode cX6_behind 2 = .ok (.bipush 100, 2) := by decide +kernel
theorem dX6_behind_4 : decode cX6_behind 4 = .ok (.invokestatic 63, 3) := by decide +kernel
theorem dX6_behind_7 : decode cX6_behind 7 = .ok (.ifCond .ne 13, 3) := by decide +kernel
theorem dX6_behind_10 : decode cX6_behind 10 = .ok (.iload_n 2, 1) := by decide +kernel
theorem dX6_behind_11 : decode cX6_behind 11 = .ok (.iconst 0, 1) := by decide +kernel
theorem dX6_behind_12 : decode cX6_behind 12 = .ok (.bipush 8, 2) := by decide +kernel
theorem dX6_behind_14 : decode cX6_behind 14 = .ok (.invokestatic 63, 3) := by decide +kernel
theorem dX6_behind_17 : decode cX6_behind 17 = .ok (.ifCond .eq 6, 3) := by decide +kernel
theorem dX6_behind_20 : decode cX6_behind 20 = .ok (.ldc 67, 2) := by decide +kernel
theorem dX6_behind_22 : decode cX6_behind 22 = .ok (.ireturn, 1) := by decide +kernel
theorem dX6_behind_23 : decode cX6_behind 23 = .ok (.aload_n 0, 1) := by decide +kernel
theorem dX6_behind_24 : decode cX6_behind 24 = .ok (.getfield 35, 3) := by decide +kernel
theorem dX6_behind_27 : decode cX6_behind 27 = .ok (.aload_n 0, 1) := by decide +kernel
theorem dX6_behind_28 : decode cX6_behind 28 = .ok (.getfield 28, 3) := by decide +kernel
theorem dX6_behind_31 : decode cX6_behind 31 = .ok (.invokevirtual 177, 3) := by decide +kernel
theorem dX6_behind_34 : decode cX6_behind 34 = .ok (.aload_n 0, 1) := by decide +kernel
theorem dX6_behind_35 : decode cX6_behind 35 = .ok (.getfield 35, 3) := by decide +kernel
theorem dX6_behind_38 : decode cX6_behind 38 = .ok (.iload_n 1, 1) := by decide +kernel
theorem dX6_behind_39 : decode cX6_behind 39 = .ok (.invokevirtual 160, 3) := by decide +kernel
theorem dX6_behind_42 : decode cX6_behind 42 = .ok (.iload_n 2, 1) := by decide +kernel
theorem dX6_behind_43 : decode cX6_behind 43 = .ok (.tableswitch 49 0 2 #[25, 33, 41], 25) := by decide +kernel
theorem dX6_behind_68 : decode cX6_behind 68 = .ok (.aload_n 0, 1) := by decide +kernel
theorem dX6_behind_69 : decode cX6_behind 69 = .ok (.getfield 35, 3) := by decide +kernel
theorem dX6_behind_72 : decode cX6_behind 72 = .ok (.getfield 154, 3) := by decide +kernel
theorem dX6_behind_75 : decode cX6_behind 75 = .ok (.ireturn, 1) := by decide +kernel
theorem dX6_behind_76 : decode cX6_behind 76 = .ok (.aload_n 0, 1) := by decide +kernel
theorem dX6_behind_77 : decode cX6_behind 77 = .ok (.getfield 35, 3) := by decide +kernel
theorem dX6_behind_80 : decode cX6_behind 80 = .ok (.getfield 164, 3) := by decide +kernel
theorem dX6_behind_83 : decode cX6_behind 83 = .ok (.ireturn, 1) := by decide +kernel
theorem dX6_behind_84 : decode cX6_behind 84 = .ok (.aload_n 0, 1) := by decide +kernel
theorem dX6_behind_85 : decode cX6_behind 85 = .ok (.getfield 35, 3) := by decide +kernel
theorem dX6_behind_88 : decode cX6_behind 88 = .ok (.getfield 167, 3) := by decide +kernel
theorem dX6_behind_91 : decode cX6_behind 91 = .ok (.ireturn, 1) := by decide +kernel
theorem dX6_behind_92 : decode cX6_behind 92 = .ok (.aload_n 0, 1) := by decide +kernel
theorem dX6_behind_93 : decode cX6_behind 93 = .ok (.getfield 35, 3) := by decide +kernel
theorem dX6_behind_96 : decode cX6_behind 96 = .ok (.getfield 134, 3) := by decide +kernel
theorem dX6_behind_99 : decode cX6_behind 99 = .ok (.iload_n 2, 1) := by decide +kernel
theorem dX6_behind_100 : decode cX6_behind 100 = .ok (.iconst 3, 1) := by decide +kernel
theorem dX6_behind_101 : decode cX6_behind 101 = .ok (.isub, 1) := by decide +kernel
theorem dX6_behind_102 : decode cX6_behind 102 = .ok (.iaload, 1) := by decide +kernel
theorem dX6_behind_103 : decode cX6_behind 103 = .ok (.ireturn, 1) := by decide +kernel
theorem dX6_first_0 : decode cX6_first 0 = .ok (.iload_n 1, 1) := by decide +kernel
theorem dX6_first_1 : decode cX6_first 1 = .ok (.invokestatic 111, 3) := by decide +kernel
theorem dX6_first_4 : decode cX6_first 4 = .ok (.ifCond .ne 13, 3) := by decide +kernel
theorem dX6_first_7 : decode cX6_first 7 = .ok (.iload_n 2, 1) := by decide +kernel
theorem dX6_first_8 : decode cX6_first 8 = .ok (.iconst 0, 1) := by decide +kernel
theorem dX6_first_9 : decode cX6_first 9 = .ok (.bipush 9, 2) := by decide +kernel
theorem dX6_first_11 : decode cX6_first 11 = .ok (.invokestatic 63, 3) := by decide +kernel
theorem dX6_first_14 : decode cX6_first 14 = .ok (.ifCond .eq 6, 3) := by decide +kernel
theorem dX6_first_17 : decode cX6_first 17 = .ok (.ldc 67, 2) := by decide +kernel
theorem dX6_first_19 : decode cX6_first 19 = .ok (.ireturn, 1) := by decide +kernel
theorem dX6_first_20 : decode cX6_first 20 = .ok (.aload_n 0, 1) := by decide +kernel
theorem dX6_first_21 : decode cX6_first 21 = .ok (.getfield 35, 3) := by decide +kernel
theorem dX6_first_24 : decode cX6_first 24 = .ok (.aload_n 0, 1) := by decide +kernel
theorem dX6_first_25 : decode cX6_first 25 = .ok (.getfield 28, 3) := by decide +kernel
theorem dX6_first_28 : decode cX6_first 28 = .ok (.invokevirtual 177, 3) := by decide +kernel
theorem dX6_first_31 : decode cX6_first 31 = .ok (.iconst 0, 1) := by decide +kernel
theorem dX6_first_32 : decode cX6_first 32 = .ok (.istore_n 3, 1) := by decide +kernel
theorem dX6_first_33 : decode cX6_first 33 = .ok (.iload_n 3, 1) := by decide +kernel
theorem dX6_first_34 : decode cX6_first 34 = .ok (.sipush 200, 3) := by decide +kernel
theorem dX6_first_37 : decode cX6_first 37 = .ok (.if_icmp .gt 32, 3) := by decide +kernel
theorem dX6_first_40 : decode cX6_first 40 = .ok (.aload_n 0, 1) := by decide +kernel
theorem dX6_first_41 : decode cX6_first 41 = .ok (.getfield 35, 3) := by decide +kernel
theorem dX6_first_44 : decode cX6_first 44 = .ok (.getfield 134, 3) := by decide +kernel
theorem dX6_first_47 : decode cX6_first 47 = .ok (.iload_n 1, 1) := by decide +kernel
theorem dX6_first_48 : decode cX6_first 48 = .ok (.iaload, 1) := by decide +kernel
theorem dX6_first_49 : decode cX6_first 49 = .ok (.iload_n 2, 1) := by decide +kernel
theorem dX6_first_50 : decode cX6_first 50 = .ok (.if_icmp .ne 5, 3) := by decide +kernel
theorem dX6_first_53 : decode cX6_first 53 = .ok (.iload_n 3, 1) := by decide +kernel
theorem dX6_first_54 : decode cX6_first 54 = .ok (.ireturn, 1) := by decide +kernel
theorem dX6_first_55 : decode cX6_first 55 = .ok (.aload_n 0, 1) := by decide +kernel
theorem dX6_first_56 : decode cX6_first 56 = .ok (.getfield 35, 3) := by decide +kernel
theorem dX6_first_59 : decode cX6_first 59 = .ok (.iconst 1, 1) := by decide +kernel
theorem dX6_first_60 : decode cX6_first 60 = .ok (.invokevirtual 160, 3) := by decide +kernel
theorem dX6_first_63 : decode cX6_first 63 = .ok (.iinc 3 1, 3) := by decide +kernel
theorem dX6_first_66 : decode cX6_first 66 = .ok (.goto (-33), 3) := by decide +kernel
theorem dX6_first_69 : decode cX6_first 69 = .ok (.ldc 181, 2) := by decide +kernel
theorem dX6_first_71 : decode cX6_first 71 = .ok (.ireturn, 1) := by decide +kernel
theorem dX6_ear_0 : decode cX6_ear 0 = .ok (.iload_n 1, 1) := by decide +kernel
theorem dX6_ear_1 : decode cX6_ear 1 = .ok (.invokestatic 111, 3) := by decide +kernel
theorem dX6_ear_4 : decode cX6_ear 4 = .ok (.ifCond .ne 33, 3) := by decide +kernel
theorem dX6_ear_7 : decode cX6_ear 7 = .ok (.iload_n 2, 1) := by decide +kernel
theorem dX6_ear_8 : decode cX6_ear 8 = .ok (.iconst 1, 1) := by decide +kernel
theorem dX6_ear_9 : decode cX6_ear 9 = .ok (.bipush 9, 2) := by decide +kernel
theorem dX6_ear_11 : decode cX6_ear 11 = .ok (.invokestatic 63, 3) := by decide +kernel
theorem dX6_ear_14 : decode cX6_ear 14 = .ok (.ifCond .ne 23, 3) := by decide +kernel
theorem dX6_ear_17 : decode cX6_ear 17 = .ok (.iload_n 3, 1) := by decide +kernel
theorem dX6_ear_18 : decode cX6_ear 18 = .ok (.iconst 0, 1) := by decide +kernel
theorem dX6_ear_19 : decode cX6_ear 19 = .ok (.bipush 60, 2) := by decide +kernel
theorem dX6_ear_21 : decode cX6_ear 21 = .ok (.invokestatic 63, 3) := by decide +kernel
theorem dX6_ear_24 : decode cX6_ear 24 = .ok (.ifCond .ne 13, 3) := by decide +kernel
theorem dX6_ear_27 : decode cX6_ear 27 = .ok (.iload 4, 2) := by decide +kernel
theorem dX6_ear_29 : decode cX6_ear 29 = .ok (.iconst 0, 1) := by decide +kernel
theorem dX6_ear_30 : decode cX6_ear 30 = .ok (.iconst 1, 1) := by decide +kernel
theorem dX6_ear_31 : decode cX6_ear 31 = .ok (.invokestatic 63, 3) := by decide +kernel
theorem dX6_ear_34 : decode cX6_ear 34 = .ok (.ifCond .eq 6, 3) := by decide +kernel
theorem dX6_ear_37 : decode cX6_ear 37 = .ok (.ldc 67, 2) := by decide +kernel
theorem dX6_ear_39 : decode cX6_ear 39 = .ok (.ireturn, 1) := by decide +kernel
theorem dX6_ear_40 : decode cX6_ear 40 = .ok (.aload_n 0, 1) := by decide +kernel
theorem dX6_ear_41 : decode cX6_ear 41 = .ok (.getfield 28, 3) := by decide +kernel
theorem dX6_ear_44 : decode cX6_ear 44 = .ok (.getfield 68, 3) := by decide +kernel
theorem dX6_ear_47 : decode cX6_ear 47 = .ok (.ifCond .ne 6, 3) := by decide +kernel
theorem dX6_ear_50 : decode cX6_ear 50 = .ok (.ldc 181, 2) := by decide +kernel
theorem dX6_ear_52 : decode cX6_ear 52 = .ok (.ireturn, 1) := by decide +kernel
theorem dX6_ear_53 : decode cX6_ear 53 = .ok (.iconst 0, 1) := by decide +kernel
theorem dX6_ear_54 : decode cX6_ear 54 = .ok (.istore 5, 2) := by decide +kernel
theorem dX6_ear_56 : decode cX6_ear 56 = .ok (.iconst (-1), 1) := by decide +kernel
theorem dX6_ear_57 : decode cX6_ear 57 = .ok (.istore 6, 2) := by decide +kernel
theorem dX6_ear_59 : decode cX6_ear 59 = .ok (.iconst 0, 1) := by decide +kernel
theorem dX6_ear_60 : decode cX6_ear 60 = .ok (.istore 7, 2) := by decide +kernel
theorem dX6_ear_62 : decode cX6_ear 62 = .ok (.iload 7, 2) := by decide +kernel
theorem dX6_ear_64 : decode cX6_ear 64 = .ok (.aload_n 0, 1) := by decide +kernel
theorem dX6_ear_65 : decode cX6_ear 65 = .ok (.getfield 28, 3) := by decide +kernel
theorem dX6_ear_68 : decode cX6_ear 68 = .ok (.getfield 68, 3) := by decide +kernel
theorem dX6_ear_71 : decode cX6_ear 71 = .ok (.if_icmp .ge 53, 3) := by decide +kernel
theorem dX6_ear_74 : decode cX6_ear 74 = .ok (.aload_n 0, 1) := by decide +kernel
theorem dX6_ear_75 : decode cX6_ear 75 = .ok (.iconst 1, 1) := by decide +kernel
theorem dX6_ear_76 : decode cX6_ear 76 = .ok (.iload 7, 2) := by decide +kernel
theorem dX6_ear_78 : decode cX6_ear 78 = .ok (.ishl, 1) := by decide +kernel
theorem dX6_ear_79 : decode cX6_ear 79 = .ok (.iload_n 1, 1) := by decide +kernel
theorem dX6_ear_80 : decode cX6_ear 80 = .ok (.iload_n 2, 1) := by decide +kernel
theorem dX6_ear_81 : decode cX6_ear 81 = .ok (.invokevirtual 182, 3) := by decide +kernel
theorem dX6_ear_84 : decode cX6_ear 84 = .ok (.aload_n 0, 1) := by decide +kernel
theorem dX6_ear_85 : decode cX6_ear 85 = .ok (.getfield 35, 3) := by decide +kernel
theorem dX6_ear_88 : decode cX6_ear 88 = .ok (.iload_n 3, 1) := by decide +kernel
theorem dX6_ear_89 : decode cX6_ear 89 = .ok (.invokevirtual 160, 3) := by decide +kernel
theorem dX6_ear_92 : decode cX6_ear 92 = .ok (.aload_n 0, 1) := by decide +kernel
theorem dX6_ear_93 : decode cX6_ear 93 = .ok (.getfield 35, 3) := by decide +kernel
theorem dX6_ear_96 : decode cX6_ear 96 = .ok (.iload_n 1, 1) := by decide +kernel
theorem dX6_ear_97 : decode cX6_ear 97 = .ok (.iload_n 2, 1) := by decide +kernel
theorem dX6_ear_98 : decode cX6_ear 98 = .ok (.invokevirtual 137, 3) := by decide +kernel
theorem dX6_ear_101 : decode cX6_ear 101 = .ok (.istore 8, 2) := by decide +kernel
theorem dX6_ear_103 : decode cX6_ear 103 = .ok (.iload 8, 2) := by decide +kernel
theorem dX6_ear_105 : decode cX6_ear 105 = .ok (.iload 6, 2) := by decide +kernel
theorem dX6_ear_107 : decode cX6_ear 107 = .ok (.if_icmp .le 11, 3) := by decide +kernel
theorem dX6_ear_110 : decode cX6_ear 110 = .ok (.iload 7, 2) := by decide +kernel
theorem dX6_ear_112 : decode cX6_ear 112 = .ok (.istore 5, 2) := by decide +kernel
theorem dX6_ear_114 : decode cX6_ear 114 = .ok (.iload 8, 2) := by decide +kernel
theorem dX6_ear_116 : decode cX6_ear 116 = .ok (.istore 6, 2) := by decide +kernel
theorem dX6_ear_118 : decode cX6_ear 118 = .ok (.iinc 7 1, 3) := by decide +kernel
theorem dX6_ear_121 : decode cX6_ear 121 = .ok (.goto (-59), 3) := by decide +kernel
theorem dX6_ear_124 : decode cX6_ear 124 = .ok (.iload 4, 2) := by decide +kernel
theorem dX6_ear_126 : decode cX6_ear 126 = .ok (.ifCond .ne 8, 3) := by decide +kernel
theorem dX6_ear_129 : decode cX6_ear 129 = .ok (.iload 5, 2) := by decide +kernel
theorem dX6_ear_131 : decode cX6_ear 131 = .ok (.goto 5, 3) := by decide +kernel
theorem dX6_ear_134 : decode cX6_ear 134 = .ok (.iload 6, 2) := by decide +kernel
theorem dX6_ear_136 : decode cX6_ear 136 = .ok (.ireturn, 1) := by decide +kernel
theorem dX6_fewest_0 : decode cX6_fewest 0 = .ok (.iload_n 1, 1) := by decide +kernel
theorem dX6_fewest_1 : decode cX6_fewest 1 = .ok (.invokestatic 111, 3) := by decide +kernel
theorem dX6_fewest_4 : decode cX6_fewest 4 = .ok (.ifCond .ne 23, 3) := by decide +kernel
theorem dX6_fewest_7 : decode cX6_fewest 7 = .ok (.iload_n 2, 1) := by decide +kernel
theorem dX6_fewest_8 : decode cX6_fewest 8 = .ok (.iconst 1, 1) := by decide +kernel
theorem dX6_fewest_9 : decode cX6_fewest 9 = .ok (.bipush 9, 2) := by decide +kernel
theorem dX6_fewest_11 : decode cX6_fewest 11 = .ok (.invokestatic 63, 3) := by decide +kernel
theorem dX6_fewest_14 : decode cX6_fewest 14 = .ok (.ifCond .ne 13, 3) := by decide +kernel
theorem dX6_fewest_17 : decode cX6_fewest 17 = .ok (.iload_n 3, 1) := by decide +kernel
theorem dX6_fewest_18 : decode cX6_fewest 18 = .ok (.iconst 0, 1) := by decide +kernel
theorem dX6_fewest_19 : decode cX6_fewest 19 = .ok (.bipush 12, 2) := by decide +kernel
theorem dX6_fewest_21 : decode cX6_fewest 21 = .ok (.invokestatic 63, 3) := by decide +kernel
theorem dX6_fewest_24 : decode cX6_fewest 24 = .ok (.ifCond .eq 6, 3) := by decide +kernel
theorem dX6_fewest_27 : decode cX6_fewest 27 = .ok (.ldc 67, 2) := by decide +kernel
theorem dX6_fewest_29 : decode cX6_fewest 29 = .ok (.ireturn, 1) := by decide +kernel
theorem dX6_fewest_30 : decode cX6_fewest 30 = .ok (.iconst 1, 1) := by decide +kernel
theorem dX6_fewest_31 : decode cX6_fewest 31 = .ok (.aload_n 0, 1) := by decide +kernel
theorem dX6_fewest_32 : decode cX6_fewest 32 = .ok (.getfield 28, 3) := by decide +kernel
theorem dX6_fewest_35 : decode cX6_fewest 35 = .ok (.getfield 68, 3) := by decide +kernel
theorem dX6_fewest_38 : decode cX6_fewest 38 = .ok (.ishl, 1) := by decide +kernel
theorem dX6_fewest_39 : decode cX6_fewest 39 = .ok (.istore 4, 2) := by decide +kernel
theorem dX6_fewest_41 : decode cX6_fewest 41 = .ok (.iconst 0, 1) := by decide +kernel
theorem dX6_fewest_42 : decode cX6_fewest 42 = .ok (.istore 5, 2) := by decide +kernel
theorem dX6_fewest_44 : decode cX6_fewest 44 = .ok (.iload 5, 2) := by decide +kernel
theorem dX6_fewest_46 : decode cX6_fewest 46 = .ok (.aload_n 0, 1) := by decide +kernel
theorem dX6_fewest_47 : decode cX6_fewest 47 = .ok (.getfield 28, 3) := by decide +kernel
theorem dX6_fewest_50 : decode cX6_fewest 50 = .ok (.getfield 68, 3) := by decide +kernel
theorem dX6_fewest_53 : decode cX6_fewest 53 = .ok (.if_icmp .gt 66, 3) := by decide +kernel
theorem dX6_fewest_56 : decode cX6_fewest 56 = .ok (.iconst 0, 1) := by decide +kernel
theorem dX6_fewest_57 : decode cX6_fewest 57 = .ok (.istore 6, 2) := by decide +kernel
theorem dX6_fewest_59 : decode cX6_fewest 59 = .ok (.iload 6, 2) := by decide +kernel
theorem dX6_fewest_61 : decode cX6_fewest 61 = .ok (.iload 4, 2) := by decide +kernel
theorem dX6_fewest_63 : decode cX6_fewest 63 = .ok (.if_icmp .ge 50, 3) := by decide +kernel
theorem dX6_fewest_66 : decode cX6_fewest 66 = .ok (.iload 6, 2) := by decide +kernel
theorem dX6_fewest_68 : decode cX6_fewest 68 = .ok (.invokestatic 185, 3) := by decide +kernel
theorem dX6_fewest_71 : decode cX6_fewest 71 = .ok (.iload 5, 2) := by decide +kernel
theorem dX6_fewest_73 : decode cX6_fewest 73 = .ok (.if_icmp .ne 34, 3) := by decide +kernel
theorem dX6_fewest_76 : decode cX6_fewest 76 = .ok (.aload_n 0, 1) := by decide +kernel
theorem dX6_fewest_77 : decode cX6_fewest 77 = .ok (.iload 6, 2) := by decide +kernel
theorem dX6_fewest_79 : decode cX6_fewest 79 = .ok (.iload_n 1, 1) := by decide +kernel
theorem dX6_fewest_80 : decode cX6_fewest 80 = .ok (.iload_n 2, 1) := by decide +kernel
theorem dX6_fewest_81 : decode cX6_fewest 81 = .ok (.invokevirtual 182, 3) := by decide +kernel
theorem dX6_fewest_84 : decode cX6_fewest 84 = .ok (.aload_n 0, 1) := by decide +kernel
theorem dX6_fewest_85 : decode cX6_fewest 85 = .ok (.getfield 35, 3) := by decide +kernel
theorem dX6_fewest_88 : decode cX6_fewest 88 = .ok (.iload_n 3, 1) := by decide +kernel
theorem dX6_fewest_89 : decode cX6_fewest 89 = .ok (.invokevirtual 160, 3) := by decide +kernel
theorem dX6_fewest_92 : decode cX6_fewest 92 = .ok (.aload_n 0, 1) := by decide +kernel
theorem dX6_fewest_93 : decode cX6_fewest 93 = .ok (.getfield 35, 3) := by decide +kernel
theorem dX6_fewest_96 : decode cX6_fewest 96 = .ok (.iload_n 1, 1) := by decide +kernel
theorem dX6_fewest_97 : decode cX6_fewest 97 = .ok (.invokevirtual 131, 3) := by decide +kernel
theorem dX6_fewest_100 : decode cX6_fewest 100 = .ok (.iload_n 2, 1) := by decide +kernel
theorem dX6_fewest_101 : decode cX6_fewest 101 = .ok (.if_icmp .ne 6, 3) := by decide +kernel
theorem dX6_fewest_104 : decode cX6_fewest 104 = .ok (.iload 6, 2) := by decide +kernel
theorem dX6_fewest_106 : decode cX6_fewest 106 = .ok (.ireturn, 1) := by decide +kernel
theorem dX6_fewest_107 : decode cX6_fewest 107 = .ok (.iinc 6 1, 3) := by decide +kernel
theorem dX6_fewest_110 : decode cX6_fewest 110 = .ok (.goto (-51), 3) := by decide +kernel
theorem dX6_fewest_113 : decode cX6_fewest 113 = .ok (.iinc 5 1, 3) := by decide +kernel
theorem dX6_fewest_116 : decode cX6_fewest 116 = .ok (.goto (-72), 3) := by decide +kernel
theorem dX6_fewest_119 : decode cX6_fewest 119 = .ok (.ldc 181, 2) := by decide +kernel
theorem dX6_fewest_121 : decode cX6_fewest 121 = .ok (.ireturn, 1) := by decide +kernel
theorem dX6_house_0 : decode cX6_house 0 = .ok (.aload_n 0, 1) := by decide +kernel
theorem dX6_house_1 : decode cX6_house 1 = .ok (.iload_n 1, 1) := by decide +kernel
theorem dX6_house_2 : decode cX6_house 2 = .ok (.invokevirtual 77, 3) := by decide +kernel
theorem dX6_house_5 : decode cX6_house 5 = .ok (.ifCond .ne 22, 3) := by decide +kernel
theorem dX6_house_8 : decode cX6_house 8 = .ok (.iload_n 2, 1) := by decide +kernel
theorem dX6_house_9 : decode cX6_house 9 = .ok (.iconst 1, 1) := by decide +kernel
theorem dX6_house_10 : decode cX6_house 10 = .ok (.bipush 60, 2) := by decide +kernel
theorem dX6_house_12 : decode cX6_house 12 = .ok (.invokestatic 63, 3) := by decide +kernel
theorem dX6_house_15 : decode cX6_house 15 = .ok (.ifCond .ne 12, 3) := by decide +kernel
theorem dX6_house_18 : decode cX6_house 18 = .ok (.iload_n 3, 1) := by decide +kernel
theorem dX6_house_19 : decode cX6_house 19 = .ok (.iconst 0, 1) := by decide +kernel
theorem dX6_house_20 : decode cX6_house 20 = .ok (.iconst 1, 1) := by decide +kernel
theorem dX6_house_21 : decode cX6_house 21 = .ok (.invokestatic 63, 3) := by decide +kernel
theorem dX6_house_24 : decode cX6_house 24 = .ok (.ifCond .eq 6, 3) := by decide +kernel
theorem dX6_house_27 : decode cX6_house 27 = .ok (.ldc 67, 2) := by decide +kernel
theorem dX6_house_29 : decode cX6_house 29 = .ok (.ireturn, 1) := by decide +kernel
theorem dX6_house_30 : decode cX6_house 30 = .ok (.iconst 0, 1) := by decide +kernel
theorem dX6_house_31 : decode cX6_house 31 = .ok (.istore 4, 2) := by decide +kernel
theorem dX6_house_33 : decode cX6_house 33 = .ok (.iconst 0, 1) := by decide +kernel
theorem dX6_house_34 : decode cX6_house 34 = .ok (.istore 5, 2) := by decide +kernel
theorem dX6_house_36 : decode cX6_house 36 = .ok (.iconst 0, 1) := by decide +kernel
theorem dX6_house_37 : decode cX6_house 37 = .ok (.istore 6, 2) := by decide +kernel
theorem dX6_house_39 : decode cX6_house 39 = .ok (.iload 6, 2) := by decide +kernel
theorem dX6_house_41 : decode cX6_house 41 = .ok (.bipush 8, 2) := by decide +kernel
theorem dX6_house_43 : decode cX6_house 43 = .ok (.if_icmp .ge 69, 3) := by decide +kernel
theorem dX6_house_46 : decode cX6_house 46 = .ok (.aload_n 0, 1) := by decide +kernel
theorem dX6_house_47 : decode cX6_house 47 = .ok (.getfield 35, 3) := by decide +kernel
theorem dX6_house_50 : decode cX6_house 50 = .ok (.aload_n 0, 1) := by decide +kernel
theorem dX6_house_51 : decode cX6_house 51 = .ok (.getfield 28, 3) := by decide +kernel
theorem dX6_house_54 : decode cX6_house 54 = .ok (.invokevirtual 177, 3) := by decide +kernel
theorem dX6_house_57 : decode cX6_house 57 = .ok (.aload_n 0, 1) := by decide +kernel
theorem dX6_house_58 : decode cX6_house 58 = .ok (.getfield 35, 3) := by decide +kernel
theorem dX6_house_61 : decode cX6_house 61 = .ok (.getfield 83, 3) := by decide +kernel
theorem dX6_house_64 : decode cX6_house 64 = .ok (.iload_n 1, 1) := by decide +kernel
theorem dX6_house_65 : decode cX6_house 65 = .ok (.iload 6, 2) := by decide +kernel
theorem dX6_house_67 : decode cX6_house 67 = .ok (.iastore, 1) := by decide +kernel
theorem dX6_house_68 : decode cX6_house 68 = .ok (.aload_n 0, 1) := by decide +kernel
theorem dX6_house_69 : decode cX6_house 69 = .ok (.getfield 35, 3) := by decide +kernel
theorem dX6_house_72 : decode cX6_house 72 = .ok (.iload_n 2, 1) := by decide +kernel
theorem dX6_house_73 : decode cX6_house 73 = .ok (.invokevirtual 160, 3) := by decide +kernel
theorem dX6_house_76 : decode cX6_house 76 = .ok (.iload 6, 2) := by decide +kernel
theorem dX6_house_78 : decode cX6_house 78 = .ok (.ifCond .eq 15, 3) := by decide +kernel
theorem dX6_house_81 : decode cX6_house 81 = .ok (.aload_n 0, 1) := by decide +kernel
theorem dX6_house_82 : decode cX6_house 82 = .ok (.getfield 35, 3) := by decide +kernel
theorem dX6_house_85 : decode cX6_house 85 = .ok (.getfield 154, 3) := by decide +kernel
theorem dX6_house_88 : decode cX6_house 88 = .ok (.iload 5, 2) := by decide +kernel
theorem dX6_house_90 : decode cX6_house 90 = .ok (.if_icmp .le 16, 3) := by decide +kernel
theorem dX6_house_93 : decode cX6_house 93 = .ok (.iload 6, 2) := by decide +kernel
theorem dX6_house_95 : decode cX6_house 95 = .ok (.istore 4, 2) := by decide +kernel
theorem dX6_house_97 : decode cX6_house 97 = .ok (.aload_n 0, 1) := by decide +kernel
theorem dX6_house_98 : decode cX6_house 98 = .ok (.getfield 35, 3) := by decide +kernel
theorem dX6_house_101 : decode cX6_house 101 = .ok (.getfield 154, 3) := by decide +kernel
theorem dX6_house_104 : decode cX6_house 104 = .ok (.istore 5, 2) := by decide +kernel
theorem dX6_house_106 : decode cX6_house 106 = .ok (.iinc 6 1, 3) := by decide +kernel
theorem dX6_house_109 : decode cX6_house 109 = .ok (.goto (-70), 3) := by decide +kernel
theorem dX6_house_112 : decode cX6_house 112 = .ok (.iload_n 3, 1) := by decide +kernel
theorem dX6_house_113 : decode cX6_house 113 = .ok (.ifCond .ne 8, 3) := by decide +kernel
theorem dX6_house_116 : decode cX6_house 116 = .ok (.iload 4, 2) := by decide +kernel
theorem dX6_house_118 : decode cX6_house 118 = .ok (.goto 5, 3) := by decide +kernel
theorem dX6_house_121 : decode cX6_house 121 = .ok (.iload 5, 2) := by decide +kernel
theorem dX6_house_123 : decode cX6_house 123 = .ok (.ireturn, 1) := by decide +kernel
theorem dX6_becomes_0 : decode cX6_becomes 0 = .ok (.aload_n 0, 1) := by decide +kernel
theorem dX6_becomes_1 : decode cX6_becomes 1 = .ok (.iload_n 1, 1) := by decide +kernel
theorem dX6_becomes_2 : decode cX6_becomes 2 = .ok (.invokevirtual 77, 3) := by decide +kernel
theorem dX6_becomes_5 : decode cX6_becomes 5 = .ok (.ifCond .ne 22, 3) := by decide +kernel
theorem dX6_becomes_8 : decode cX6_becomes 8 = .ok (.iload_n 2, 1) := by decide +kernel
theorem dX6_becomes_9 : decode cX6_becomes 9 = .ok (.iconst 1, 1) := by decide +kernel
theorem dX6_becomes_10 : decode cX6_becomes 10 = .ok (.bipush 60, 2) := by decide +kernel
theorem dX6_becomes_12 : decode cX6_becomes 12 = .ok (.invokestatic 63, 3) := by decide +kernel
theorem dX6_becomes_15 : decode cX6_becomes 15 = .ok (.ifCond .ne 12, 3) := by decide +kernel
theorem dX6_becomes_18 : decode cX6_becomes 18 = .ok (.iload_n 3, 1) := by decide +kernel
theorem dX6_becomes_19 : decode cX6_becomes 19 = .ok (.iconst 0, 1) := by decide +kernel
theorem dX6_becomes_20 : decode cX6_becomes 20 = .ok (.iconst 1, 1) := by decide +kernel
theorem dX6_becomes_21 : decode cX6_becomes 21 = .ok (.invokestatic 63, 3) := by decide +kernel
theorem dX6_becomes_24 : decode cX6_becomes 24 = .ok (.ifCond .eq 6, 3) := by decide +kernel
theorem dX6_becomes_27 : decode cX6_becomes 27 = .ok (.ldc 67, 2) := by decide +kernel
theorem dX6_becomes_29 : decode cX6_becomes 29 = .ok (.ireturn, 1) := by decide +kernel
theorem dX6_becomes_30 : decode cX6_becomes 30 = .ok (.iconst 0, 1) := by decide +kernel
theorem dX6_becomes_31 : decode cX6_becomes 31 = .ok (.istore 4, 2) := by decide +kernel
theorem dX6_becomes_33 : decode cX6_becomes 33 = .ok (.iconst 0, 1) := by decide +kernel
theorem dX6_becomes_34 : decode cX6_becomes 34 = .ok (.istore 5, 2) := by decide +kernel
theorem dX6_becomes_36 : decode cX6_becomes 36 = .ok (.iconst 0, 1) := by decide +kernel
theorem dX6_becomes_37 : decode cX6_becomes 37 = .ok (.istore 6, 2) := by decide +kernel
theorem dX6_becomes_39 : decode cX6_becomes 39 = .ok (.iload 6, 2) := by decide +kernel
theorem dX6_becomes_41 : decode cX6_becomes 41 = .ok (.bipush 6, 2) := by decide +kernel
theorem dX6_becomes_43 : decode cX6_becomes 43 = .ok (.if_icmp .ge 69, 3) := by decide +kernel
theorem dX6_becomes_46 : decode cX6_becomes 46 = .ok (.aload_n 0, 1) := by decide +kernel
theorem dX6_becomes_47 : decode cX6_becomes 47 = .ok (.getfield 35, 3) := by decide +kernel
theorem dX6_becomes_50 : decode cX6_becomes 50 = .ok (.aload_n 0, 1) := by decide +kernel
theorem dX6_becomes_51 : decode cX6_becomes 51 = .ok (.getfield 28, 3) := by decide +kernel
theorem dX6_becomes_54 : decode cX6_becomes 54 = .ok (.invokevirtual 177, 3) := by decide +kernel
theorem dX6_becomes_57 : decode cX6_becomes 57 = .ok (.aload_n 0, 1) := by decide +kernel
theorem dX6_becomes_58 : decode cX6_becomes 58 = .ok (.getfield 35, 3) := by decide +kernel
theorem dX6_becomes_61 : decode cX6_becomes 61 = .ok (.getfield 80, 3) := by decide +kernel
theorem dX6_becomes_64 : decode cX6_becomes 64 = .ok (.iload_n 1, 1) := by decide +kernel
theorem dX6_becomes_65 : decode cX6_becomes 65 = .ok (.iload 6, 2) := by decide +kernel
theorem dX6_becomes_67 : decode cX6_becomes 67 = .ok (.iastore, 1) := by decide +kernel
theorem dX6_becomes_68 : decode cX6_becomes 68 = .ok (.aload_n 0, 1) := by decide +kernel
theorem dX6_becomes_69 : decode cX6_becomes 69 = .ok (.getfield 35, 3) := by decide +kernel
theorem dX6_becomes_72 : decode cX6_becomes 72 = .ok (.iload_n 2, 1) := by decide +kernel
theorem dX6_becomes_73 : decode cX6_becomes 73 = .ok (.invokevirtual 160, 3) := by decide +kernel
theorem dX6_becomes_76 : decode cX6_becomes 76 = .ok (.iload 6, 2) := by decide +kernel
theorem dX6_becomes_78 : decode cX6_becomes 78 = .ok (.ifCond .eq 15, 3) := by decide +kernel
theorem dX6_becomes_81 : decode cX6_becomes 81 = .ok (.aload_n 0, 1) := by decide +kernel
theorem dX6_becomes_82 : decode cX6_becomes 82 = .ok (.getfield 35, 3) := by decide +kernel
theorem dX6_becomes_85 : decode cX6_becomes 85 = .ok (.getfield 164, 3) := by decide +kernel
theorem dX6_becomes_88 : decode cX6_becomes 88 = .ok (.iload 5, 2) := by decide +kernel
theorem dX6_becomes_90 : decode cX6_becomes 90 = .ok (.if_icmp .ge 16, 3) := by decide +kernel
theorem dX6_becomes_93 : decode cX6_becomes 93 = .ok (.iload 6, 2) := by decide +kernel
theorem dX6_becomes_95 : decode cX6_becomes 95 = .ok (.istore 4, 2) := by decide +kernel
theorem dX6_becomes_97 : decode cX6_becomes 97 = .ok (.aload_n 0, 1) := by decide +kernel
theorem dX6_becomes_98 : decode cX6_becomes 98 = .ok (.getfield 35, 3) := by decide +kernel
theorem dX6_becomes_101 : decode cX6_becomes 101 = .ok (.getfield 164, 3) := by decide +kernel
theorem dX6_becomes_104 : decode cX6_becomes 104 = .ok (.istore 5, 2) := by decide +kernel
theorem dX6_becomes_106 : decode cX6_becomes 106 = .ok (.iinc 6 1, 3) := by decide +kernel
theorem dX6_becomes_109 : decode cX6_becomes 109 = .ok (.goto (-70), 3) := by decide +kernel
theorem dX6_becomes_112 : decode cX6_becomes 112 = .ok (.iload_n 3, 1) := by decide +kernel
theorem dX6_becomes_113 : decode cX6_becomes 113 = .ok (.ifCond .ne 8, 3) := by decide +kernel
theorem dX6_becomes_116 : decode cX6_becomes 116 = .ok (.iload 4, 2) := by decide +kernel
theorem dX6_becomes_118 : decode cX6_becomes 118 = .ok (.goto 5, 3) := by decide +kernel
theorem dX6_becomes_121 : decode cX6_becomes 121 = .ok (.iload 5, 2) := by decide +kernel
theorem dX6_becomes_123 : decode cX6_becomes 123 = .ok (.ireturn, 1) := by decide +kernel
theorem dX6_like_0 : decode cX6_like 0 = .ok (.iload_n 1, 1) := by decide +kernel
theorem dX6_like_1 : decode cX6_like 1 = .ok (.invokestatic 190, 3) := by decide +kernel
theorem dX6_like_4 : decode cX6_like 4 = .ok (.ifCond .ne 12, 3) := by decide +kernel
theorem dX6_like_7 : decode cX6_like 7 = .ok (.iload_n 2, 1) := by decide +kernel
theorem dX6_like_8 : decode cX6_like 8 = .ok (.iconst 0, 1) := by decide +kernel
theorem dX6_like_9 : decode cX6_like 9 = .ok (.iconst 1, 1) := by decide +kernel
theorem dX6_like_10 : decode cX6_like 10 = .ok (.invokestatic 63, 3) := by decide +kernel
theorem dX6_like_13 : decode cX6_like 13 = .ok (.ifCond .eq 6, 3) := by decide +kernel
theorem dX6_like_16 : decode cX6_like 16 = .ok (.ldc 67, 2) := by decide +kernel
theorem dX6_like_18 : decode cX6_like 18 = .ok (.ireturn, 1) := by decide +kernel
theorem dX6_like_19 : decode cX6_like 19 = .ok (.aload_n 0, 1) := by decide +kernel
theorem dX6_like_20 : decode cX6_like 20 = .ok (.getfield 40, 3) := by decide +kernel
theorem dX6_like_23 : decode cX6_like 23 = .ok (.iload_n 1, 1) := by decide +kernel
theorem dX6_like_24 : decode cX6_like 24 = .ok (.aaload, 1) := by decide +kernel
theorem dX6_like_25 : decode cX6_like 25 = .ok (.astore_n 3, 1) := by decide +kernel
theorem dX6_like_26 : decode cX6_like 26 = .ok (.aload_n 3, 1) := by decide +kernel
theorem dX6_like_27 : decode cX6_like 27 = .ok (.getfield 193, 3) := by decide +kernel
theorem dX6_like_30 : decode cX6_like 30 = .ok (.iconst (-1), 1) := by decide +kernel
theorem dX6_like_31 : decode cX6_like 31 = .ok (.if_icmp .ne 6, 3) := by decide +kernel
theorem dX6_like_34 : decode cX6_like 34 = .ok (.ldc 196, 2) := by decide +kernel
theorem dX6_like_36 : decode cX6_like 36 = .ok (.ireturn, 1) := by decide +kernel
theorem dX6_like_37 : decode cX6_like 37 = .ok (.iconst 0, 1) := by decide +kernel
theorem dX6_like_38 : decode cX6_like 38 = .ok (.istore 4, 2) := by decide +kernel
theorem dX6_like_40 : decode cX6_like 40 = .ok (.iload 4, 2) := by decide +kernel
theorem dX6_like_42 : decode cX6_like 42 = .ok (.bipush 6, 2) := by decide +kernel
theorem dX6_like_44 : decode cX6_like 44 = .ok (.if_icmp .ge 17, 3) := by decide +kernel
theorem dX6_like_47 : decode cX6_like 47 = .ok (.aload_n 0, 1) := by decide +kernel
theorem dX6_like_48 : decode cX6_like 48 = .ok (.getfield 56, 3) := by decide +kernel
theorem dX6_like_51 : decode cX6_like 51 = .ok (.iload 4, 2) := by decide +kernel
theorem dX6_like_53 : decode cX6_like 53 = .ok (.iconst 0, 1) := by decide +kernel
theorem dX6_like_54 : decode cX6_like 54 = .ok (.iastore, 1) := by decide +kernel
theorem dX6_like_55 : decode cX6_like 55 = .ok (.iinc 4 1, 3) := by decide +kernel
theorem dX6_like_58 : decode cX6_like 58 = .ok (.goto (-18), 3) := by decide +kernel
theorem dX6_like_61 : decode cX6_like 61 = .ok (.aload_n 0, 1) := by decide +kernel
theorem dX6_like_62 : decode cX6_like 62 = .ok (.getfield 35, 3) := by decide +kernel
theorem dX6_like_65 : decode cX6_like 65 = .ok (.aload_n 0, 1) := by decide +kernel
theorem dX6_like_66 : decode cX6_like 66 = .ok (.getfield 28, 3) := by decide +kernel
theorem dX6_like_69 : decode cX6_like 69 = .ok (.invokevirtual 177, 3) := by decide +kernel
theorem dX6_like_72 : decode cX6_like 72 = .ok (.iconst 0, 1) := by decide +kernel
theorem dX6_like_73 : decode cX6_like 73 = .ok (.istore 4, 2) := by decide +kernel
theorem dX6_like_75 : decode cX6_like 75 = .ok (.iload 4, 2) := by decide +kernel
theorem dX6_like_77 : decode cX6_like 77 = .ok (.aload_n 3, 1) := by decide +kernel
theorem dX6_like_78 : decode cX6_like 78 = .ok (.getfield 197, 3) := by decide +kernel
theorem dX6_like_81 : decode cX6_like 81 = .ok (.if_icmp .ge 37, 3) := by decide +kernel
theorem dX6_like_84 : decode cX6_like 84 = .ok (.aload_n 3, 1) := by decide +kernel
theorem dX6_like_85 : decode cX6_like 85 = .ok (.iload 4, 2) := by decide +kernel
theorem dX6_like_87 : decode cX6_like 87 = .ok (.invokevirtual 200, 3) := by decide +kernel
theorem dX6_like_90 : decode cX6_like 90 = .ok (.ifCond .eq 14, 3) := by decide +kernel
theorem dX6_like_93 : decode cX6_like 93 = .ok (.aload_n 0, 1) := by decide +kernel
theorem dX6_like_94 : decode cX6_like 94 = .ok (.aload_n 3, 1) := by decide +kernel
theorem dX6_like_95 : decode cX6_like 95 = .ok (.getfield 203, 3) := by decide +kernel
theorem dX6_like_98 : decode cX6_like 98 = .ok (.iload 4, 2) := by decide +kernel
theorem dX6_like_100 : decode cX6_like 100 = .ok (.iaload, 1) := by decide +kernel
theorem dX6_like_101 : decode cX6_like 101 = .ok (.invokevirtual 206, 3) := by decide +kernel
theorem dX6_like_104 : decode cX6_like 104 = .ok (.aload_n 0, 1) := by decide +kernel
theorem dX6_like_105 : decode cX6_like 105 = .ok (.getfield 35, 3) := by decide +kernel
theorem dX6_like_108 : decode cX6_like 108 = .ok (.iconst 1, 1) := by decide +kernel
theorem dX6_like_109 : decode cX6_like 109 = .ok (.invokevirtual 160, 3) := by decide +kernel
theorem dX6_like_112 : decode cX6_like 112 = .ok (.iinc 4 1, 3) := by decide +kernel
theorem dX6_like_115 : decode cX6_like 115 = .ok (.goto (-40), 3) := by decide +kernel
theorem dX6_like_118 : decode cX6_like 118 = .ok (.iconst 0, 1) := by decide +kernel
theorem dX6_like_119 : decode cX6_like 119 = .ok (.istore 4, 2) := by decide +kernel
theorem dX6_like_121 : decode cX6_like 121 = .ok (.iconst 1, 1) := by decide +kernel
theorem dX6_like_122 : decode cX6_like 122 = .ok (.istore 5, 2) := by decide +kernel
theorem dX6_like_124 : decode cX6_like 124 = .ok (.iload 5, 2) := by decide +kernel
theorem dX6_like_126 : decode cX6_like 126 = .ok (.bipush 6, 2) := by decide +kernel
theorem dX6_like_128 : decode cX6_like 128 = .ok (.if_icmp .ge 30, 3) := by decide +kernel
theorem dX6_like_131 : decode cX6_like 131 = .ok (.aload_n 0, 1) := by decide +kernel
theorem dX6_like_132 : decode cX6_like 132 = .ok (.getfield 56, 3) := by decide +kernel
theorem dX6_like_135 : decode cX6_like 135 = .ok (.iload 5, 2) := by decide +kernel
theorem dX6_like_137 : decode cX6_like 137 = .ok (.iaload, 1) := by decide +kernel
theorem dX6_like_138 : decode cX6_like 138 = .ok (.aload_n 0, 1) := by decide +kernel
theorem dX6_like_139 : decode cX6_like 139 = .ok (.getfield 56, 3) := by decide +kernel
theorem dX6_like_142 : decode cX6_like 142 = .ok (.iload 4, 2) := by decide +kernel
theorem dX6_like_144 : decode cX6_like 144 = .ok (.iaload, 1) := by decide +kernel
theorem dX6_like_145 : decode cX6_like 145 = .ok (.if_icmp .ge 7, 3) := by decide +kernel
theorem dX6_like_148 : decode cX6_like 148 = .ok (.iload 5, 2) := by decide +kernel
theorem dX6_like_150 : decode cX6_like 150 = .ok (.istore 4, 2) := by decide +kernel
theorem dX6_like_152 : decode cX6_like 152 = .ok (.iinc 5 1, 3) := by decide +kernel
theorem dX6_like_155 : decode cX6_like 155 = .ok (.goto (-31), 3) := by decide +kernel
theorem dX6_like_158 : decode cX6_like 158 = .ok (.iload_n 2, 1) := by decide +kernel
theorem dX6_like_159 : decode cX6_like 159 = .ok (.ifCond .ne 8, 3) := by decide +kernel
theorem dX6_like_162 : decode cX6_like 162 = .ok (.iload 4, 2) := by decide +kernel
theorem dX6_like_164 : decode cX6_like 164 = .ok (.goto 10, 3) := by decide +kernel
theorem dX6_like_167 : decode cX6_like 167 = .ok (.aload_n 0, 1) := by decide +kernel
theorem dX6_like_168 : decode cX6_like 168 = .ok (.getfield 56, 3) := by decide +kernel
theorem dX6_like_171 : decode cX6_like 171 = .ok (.iload 4, 2) := by decide +kernel
theorem dX6_like_173 : decode cX6_like 173 = .ok (.iaload, 1) := by decide +kernel
theorem dX6_like_174 : decode cX6_like 174 = .ok (.ireturn, 1) := by decide +kernel
theorem dX6_fee_0 : decode cX6_fee 0 = .ok (.aload_n 0, 1) := by decide +kernel
theorem dX6_fee_1 : decode cX6_fee 1 = .ok (.getfield 28, 3) := by decide +kernel
theorem dX6_fee_4 : decode cX6_fee 4 = .ok (.getfield 209, 3) := by decide +kernel
theorem dX6_fee_7 : decode cX6_fee 7 = .ok (.iconst 1, 1) := by decide +kernel
theorem dX6_fee_8 : decode cX6_fee 8 = .ok (.iaload, 1) := by decide +kernel
theorem dX6_fee_9 : decode cX6_fee 9 = .ok (.istore_n 1, 1) := by decide +kernel
theorem dX6_fee_10 : decode cX6_fee 10 = .ok (.iload_n 1, 1) := by decide +kernel
theorem dX6_fee_11 : decode cX6_fee 11 = .ok (.ifCond .ge 11, 3) := by decide +kernel
theorem dX6_fee_14 : decode cX6_fee 14 = .ok (.aload_n 0, 1) := by decide +kernel
theorem dX6_fee_15 : decode cX6_fee 15 = .ok (.getfield 28, 3) := by decide +kernel
theorem dX6_fee_18 : decode cX6_fee 18 = .ok (.getfield 154, 3) := by decide +kernel
theorem dX6_fee_21 : decode cX6_fee 21 = .ok (.ireturn, 1) := by decide +kernel
theorem dX6_fee_22 : decode cX6_fee 22 = .ok (.aload_n 0, 1) := by decide +kernel
theorem dX6_fee_23 : decode cX6_fee 23 = .ok (.getfield 10, 3) := by decide +kernel
theorem dX6_fee_26 : decode cX6_fee 26 = .ok (.getfield 212, 3) := by decide +kernel
theorem dX6_fee_29 : decode cX6_fee 29 = .ok (.iconst 4, 1) := by decide +kernel
theorem dX6_fee_30 : decode cX6_fee 30 = .ok (.aload_n 0, 1) := by decide +kernel
theorem dX6_fee_31 : decode cX6_fee 31 = .ok (.getfield 28, 3) := by decide +kernel
theorem dX6_fee_34 : decode cX6_fee 34 = .ok (.getfield 154, 3) := by decide +kernel
theorem dX6_fee_37 : decode cX6_fee 37 = .ok (.iastore, 1) := by decide +kernel
theorem dX6_fee_38 : decode cX6_fee 38 = .ok (.aload_n 0, 1) := by decide +kernel
theorem dX6_fee_39 : decode cX6_fee 39 = .ok (.getfield 10, 3) := by decide +kernel
theorem dX6_fee_42 : decode cX6_fee 42 = .ok (.getfield 212, 3) := by decide +kernel
theorem dX6_fee_45 : decode cX6_fee 45 = .ok (.iconst 5, 1) := by decide +kernel
theorem dX6_fee_46 : decode cX6_fee 46 = .ok (.aload_n 0, 1) := by decide +kernel
theorem dX6_fee_47 : decode cX6_fee 47 = .ok (.getfield 28, 3) := by decide +kernel
theorem dX6_fee_50 : decode cX6_fee 50 = .ok (.getfield 164, 3) := by decide +kernel
theorem dX6_fee_53 : decode cX6_fee 53 = .ok (.iastore, 1) := by decide +kernel
theorem dX6_fee_54 : decode cX6_fee 54 = .ok (.aload_n 0, 1) := by decide +kernel
theorem dX6_fee_55 : decode cX6_fee 55 = .ok (.getfield 10, 3) := by decide +kernel
theorem dX6_fee_58 : decode cX6_fee 58 = .ok (.iload_n 1, 1) := by decide +kernel
theorem dX6_fee_59 : decode cX6_fee 59 = .ok (.invokevirtual 215, 3) := by decide +kernel
theorem dX6_fee_62 : decode cX6_fee 62 = .ok (.ireturn, 1) := by decide +kernel
theorem dX6_fine_0 : decode cX6_fine 0 = .ok (.aload_n 0, 1) := by decide +kernel
theorem dX6_fine_1 : decode cX6_fine 1 = .ok (.iload_n 1, 1) := by decide +kernel
theorem dX6_fine_2 : decode cX6_fine 2 = .ok (.invokevirtual 77, 3) := by decide +kernel
theorem dX6_fine_5 : decode cX6_fine 5 = .ok (.ifCond .eq 6, 3) := by decide +kernel
theorem dX6_fine_8 : decode cX6_fine 8 = .ok (.ldc 67, 2) := by decide +kernel
theorem dX6_fine_10 : decode cX6_fine 10 = .ok (.ireturn, 1) := by decide +kernel
theorem dX6_fine_11 : decode cX6_fine 11 = .ok (.aload_n 0, 1) := by decide +kernel
theorem dX6_fine_12 : decode cX6_fine 12 = .ok (.getfield 28, 3) := by decide +kernel
theorem dX6_fine_15 : decode cX6_fine 15 = .ok (.getfield 209, 3) := by decide +kernel
theorem dX6_fine_18 : decode cX6_fine 18 = .ok (.iconst 2, 1) := by decide +kernel
theorem dX6_fine_19 : decode cX6_fine 19 = .ok (.iaload, 1) := by decide +kernel
theorem dX6_fine_20 : decode cX6_fine 20 = .ok (.istore_n 2, 1) := by decide +kernel
theorem dX6_fine_21 : decode cX6_fine 21 = .ok (.iload_n 2, 1) := by decide +kernel
theorem dX6_fine_22 : decode cX6_fine 22 = .ok (.ifCond .ge 13, 3) := by decide +kernel
theorem dX6_fine_25 : decode cX6_fine 25 = .ok (.aload_n 0, 1) := by decide +kernel
theorem dX6_fine_26 : decode cX6_fine 26 = .ok (.getfield 28, 3) := by decide +kernel
theorem dX6_fine_29 : decode cX6_fine 29 = .ok (.getfield 89, 3) := by decide +kernel
theorem dX6_fine_32 : decode cX6_fine 32 = .ok (.iload_n 1, 1) := by decide +kernel
theorem dX6_fine_33 : decode cX6_fine 33 = .ok (.iaload, 1) := by decide +kernel
theorem dX6_fine_34 : decode cX6_fine 34 = .ok (.ireturn, 1) := by decide +kernel
theorem dX6_fine_35 : decode cX6_fine 35 = .ok (.aload_n 0, 1) := by decide +kernel
theorem dX6_fine_36 : decode cX6_fine 36 = .ok (.getfield 10, 3) := by decide +kernel
theorem dX6_fine_39 : decode cX6_fine 39 = .ok (.getfield 212, 3) := by decide +kernel
theorem dX6_fine_42 : decode cX6_fine 42 = .ok (.iconst 0, 1) := by decide +kernel
theorem dX6_fine_43 : decode cX6_fine 43 = .ok (.aload_n 0, 1) := by decide +kernel
theorem dX6_fine_44 : decode cX6_fine 44 = .ok (.getfield 28, 3) := by decide +kernel
theorem dX6_fine_47 : decode cX6_fine 47 = .ok (.getfield 86, 3) := by decide +kernel
theorem dX6_fine_50 : decode cX6_fine 50 = .ok (.iload_n 1, 1) := by decide +kernel
theorem dX6_fine_51 : decode cX6_fine 51 = .ok (.iaload, 1) := by decide +kernel
theorem dX6_fine_52 : decode cX6_fine 52 = .ok (.iastore, 1) := by decide +kernel
theorem dX6_fine_53 : decode cX6_fine 53 = .ok (.aload_n 0, 1) := by decide +kernel
theorem dX6_fine_54 : decode cX6_fine 54 = .ok (.getfield 10, 3) := by decide +kernel
theorem dX6_fine_57 : decode cX6_fine 57 = .ok (.getfield 212, 3) := by decide +kernel
theorem dX6_fine_60 : decode cX6_fine 60 = .ok (.iconst 2, 1) := by decide +kernel
theorem dX6_fine_61 : decode cX6_fine 61 = .ok (.aload_n 0, 1) := by decide +kernel
theorem dX6_fine_62 : decode cX6_fine 62 = .ok (.getfield 28, 3) := by decide +kernel
theorem dX6_fine_65 : decode cX6_fine 65 = .ok (.getfield 89, 3) := by decide +kernel
theorem dX6_fine_68 : decode cX6_fine 68 = .ok (.iload_n 1, 1) := by decide +kernel
theorem dX6_fine_69 : decode cX6_fine 69 = .ok (.iaload, 1) := by decide +kernel
theorem dX6_fine_70 : decode cX6_fine 70 = .ok (.iastore, 1) := by decide +kernel
theorem dX6_fine_71 : decode cX6_fine 71 = .ok (.aload_n 0, 1) := by decide +kernel
theorem dX6_fine_72 : decode cX6_fine 72 = .ok (.getfield 10, 3) := by decide +kernel
theorem dX6_fine_75 : decode cX6_fine 75 = .ok (.iload_n 2, 1) := by decide +kernel
theorem dX6_fine_76 : decode cX6_fine 76 = .ok (.invokevirtual 215, 3) := by decide +kernel
theorem dX6_fine_79 : decode cX6_fine 79 = .ok (.ireturn, 1) := by decide +kernel
theorem dX6_feed_0 : decode cX6_feed 0 = .ok (.aload_n 0, 1) := by decide +kernel
theorem dX6_feed_1 : decode cX6_feed 1 = .ok (.getfield 19, 3) := by decide +kernel
theorem dX6_feed_4 : decode cX6_feed 4 = .ok (.getfield 218, 3) := by decide +kernel
theorem dX6_feed_7 : decode cX6_feed 7 = .ok (.bipush 12, 2) := by decide +kernel
theorem dX6_feed_9 : decode cX6_feed 9 = .ok (.iadd, 1) := by decide +kernel
theorem dX6_feed_10 : decode cX6_feed 10 = .ok (.bipush 96, 2) := by decide +kernel
theorem dX6_feed_12 : decode cX6_feed 12 = .ok (.if_icmp .le 6, 3) := by decide +kernel
theorem dX6_feed_15 : decode cX6_feed 15 = .ok (.ldc 72, 2) := by decide +kernel
theorem dX6_feed_17 : decode cX6_feed 17 = .ok (.ireturn, 1) := by decide +kernel
theorem dX6_feed_18 : decode cX6_feed 18 = .ok (.aload_n 0, 1) := by decide +kernel
theorem dX6_feed_19 : decode cX6_feed 19 = .ok (.getfield 19, 3) := by decide +kernel
theorem dX6_feed_22 : decode cX6_feed 22 = .ok (.iload_n 1, 1) := by decide +kernel
theorem dX6_feed_23 : decode cX6_feed 23 = .ok (.invokevirtual 221, 3) := by decide +kernel
theorem dX6_feed_26 : decode cX6_feed 26 = .ok (.aload_n 0, 1) := by decide +kernel
theorem dX6_feed_27 : decode cX6_feed 27 = .ok (.getfield 19, 3) := by decide +kernel
theorem dX6_feed_30 : decode cX6_feed 30 = .ok (.iload_n 2, 1) := by decide +kernel
theorem dX6_feed_31 : decode cX6_feed 31 = .ok (.invokevirtual 221, 3) := by decide +kernel
theorem dX6_feed_34 : decode cX6_feed 34 = .ok (.aload_n 0, 1) := by decide +kernel
theorem dX6_feed_35 : decode cX6_feed 35 = .ok (.getfield 19, 3) := by decide +kernel
theorem dX6_feed_38 : decode cX6_feed 38 = .ok (.iload_n 3, 1) := by decide +kernel
theorem dX6_feed_39 : decode cX6_feed 39 = .ok (.invokevirtual 221, 3) := by decide +kernel
theorem dX6_feed_42 : decode cX6_feed 42 = .ok (.aload_n 0, 1) := by decide +kernel
theorem dX6_feed_43 : decode cX6_feed 43 = .ok (.getfield 19, 3) := by decide +kernel
theorem dX6_feed_46 : decode cX6_feed 46 = .ok (.getfield 218, 3) := by decide +kernel
theorem dX6_feed_49 : decode cX6_feed 49 = .ok (.ireturn, 1) := by decide +kernel
theorem dX6_trim_0 : decode cX6_trim 0 = .ok (.iload_n 1, 1) := by decide +kernel
theorem dX6_trim_1 : decode cX6_trim 1 = .ok (.iconst 0, 1) := by decide +kernel
theorem dX6_trim_2 : decode cX6_trim 2 = .ok (.aload_n 0, 1) := by decide +kernel
theorem dX6_trim_3 : decode cX6_trim 3 = .ok (.getfield 19, 3) := by decide +kernel
theorem dX6_trim_6 : decode cX6_trim 6 = .ok (.getfield 218, 3) := by decide +kernel
theorem dX6_trim_9 : decode cX6_trim 9 = .ok (.invokestatic 63, 3) := by decide +kernel
theorem dX6_trim_12 : decode cX6_trim 12 = .ok (.ifCond .eq 6, 3) := by decide +kernel
theorem dX6_trim_15 : decode cX6_trim 15 = .ok (.ldc 67, 2) := by decide +kernel
theorem dX6_trim_17 : decode cX6_trim 17 = .ok (.ireturn, 1) := by decide +kernel
theorem dX6_trim_18 : decode cX6_trim 18 = .ok (.aload_n 0, 1) := by decide +kernel
theorem dX6_trim_19 : decode cX6_trim 19 = .ok (.getfield 19, 3) := by decide +kernel
theorem dX6_trim_22 : decode cX6_trim 22 = .ok (.iload_n 1, 1) := by decide +kernel
theorem dX6_trim_23 : decode cX6_trim 23 = .ok (.putfield 218, 3) := by decide +kernel
theorem dX6_trim_26 : decode cX6_trim 26 = .ok (.iload_n 1, 1) := by decide +kernel
theorem dX6_trim_27 : decode cX6_trim 27 = .ok (.ireturn, 1) := by decide +kernel
theorem dX6_text_0 : decode cX6_text 0 = .ok (.aload_n 0, 1) := by decide +kernel
theorem dX6_text_1 : decode cX6_text 1 = .ok (.getfield 19, 3) := by decide +kernel
theorem dX6_text_4 : decode cX6_text 4 = .ok (.invokevirtual 224, 3) := by decide +kernel
theorem dX6_text_7 : decode cX6_text 7 = .ok (.istore_n 1, 1) := by decide +kernel
theorem dX6_text_8 : decode cX6_text 8 = .ok (.aload_n 0, 1) := by decide +kernel
theorem dX6_text_9 : decode cX6_text 9 = .ok (.getfield 19, 3) := by decide +kernel
theorem dX6_text_12 : decode cX6_text 12 = .ok (.iconst 0, 1) := by decide +kernel
theorem dX6_text_13 : decode cX6_text 13 = .ok (.putfield 218, 3) := by decide +kernel
theorem dX6_text_16 : decode cX6_text 16 = .ok (.iload_n 1, 1) := by decide +kernel
theorem dX6_text_17 : decode cX6_text 17 = .ok (.ifCond .lt 8, 3) := by decide +kernel
theorem dX6_text_20 : decode cX6_text 20 = .ok (.bipush (-100), 2) := by decide +kernel
theorem dX6_text_22 : decode cX6_text 22 = .ok (.iload_n 1, 1) := by decide +kernel
theorem dX6_text_23 : decode cX6_text 23 = .ok (.isub, 1) := by decide +kernel
theorem dX6_text_24 : decode cX6_text 24 = .ok (.ireturn, 1) := by decide +kernel
theorem dX6_text_25 : decode cX6_text 25 = .ok (.aload_n 0, 1) := by decide +kernel
theorem dX6_text_26 : decode cX6_text 26 = .ok (.getfield 28, 3) := by decide +kernel
theorem dX6_text_29 : decode cX6_text 29 = .ok (.getfield 227, 3) := by decide +kernel
theorem dX6_text_32 : decode cX6_text 32 = .ok (.istore_n 2, 1) := by decide +kernel
theorem dX6_text_33 : decode cX6_text 33 = .ok (.iload_n 2, 1) := by decide +kernel
theorem dX6_text_34 : decode cX6_text 34 = .ok (.bipush 14, 2) := by decide +kernel
theorem dX6_text_36 : decode cX6_text 36 = .ok (.if_icmp .lt 6, 3) := by decide +kernel
theorem dX6_text_39 : decode cX6_text 39 = .ok (.ldc 72, 2) := by decide +kernel
theorem dX6_text_41 : decode cX6_text 41 = .ok (.ireturn, 1) := by decide +kernel
theorem dX6_text_42 : decode cX6_text 42 = .ok (.aload_n 0, 1) := by decide +kernel
theorem dX6_text_43 : decode cX6_text 43 = .ok (.getfield 10, 3) := by decide +kernel
theorem dX6_text_46 : decode cX6_text 46 = .ok (.getfield 230, 3) := by decide +kernel
theorem dX6_text_49 : decode cX6_text 49 = .ok (.iload_n 2, 1) := by decide +kernel
theorem dX6_text_50 : decode cX6_text 50 = .ok (.aaload, 1) := by decide +kernel
theorem dX6_text_51 : decode cX6_text 51 = .ok (.aload_n 0, 1) := by decide +kernel
theorem dX6_text_52 : decode cX6_text 52 = .ok (.getfield 19, 3) := by decide +kernel
theorem dX6_text_55 : decode cX6_text 55 = .ok (.getfield 233, 3) := by decide +kernel
theorem dX6_text_58 : decode cX6_text 58 = .ok (.invokevirtual 237, 3) := by decide +kernel
theorem dX6_text_61 : decode cX6_text 61 = .ok (.aload_n 0, 1) := by decide +kernel
theorem dX6_text_62 : decode cX6_text 62 = .ok (.getfield 28, 3) := by decide +kernel
theorem dX6_text_65 : decode cX6_text 65 = .ok (.getfield 209, 3) := by decide +kernel
theorem dX6_text_68 : decode cX6_text 68 = .ok (.aload_n 0, 1) := by decide +kernel
theorem dX6_text_69 : decode cX6_text 69 = .ok (.getfield 19, 3) := by decide +kernel
theorem dX6_text_72 : decode cX6_text 72 = .ok (.getfield 233, 3) := by decide +kernel
theorem dX6_text_75 : decode cX6_text 75 = .ok (.getfield 242, 3) := by decide +kernel
theorem dX6_text_78 : decode cX6_text 78 = .ok (.iload_n 2, 1) := by decide +kernel
theorem dX6_text_79 : decode cX6_text 79 = .ok (.iastore, 1) := by decide +kernel
theorem dX6_text_80 : decode cX6_text 80 = .ok (.aload_n 0, 1) := by decide +kernel
theorem dX6_text_81 : decode cX6_text 81 = .ok (.getfield 28, 3) := by decide +kernel
theorem dX6_text_84 : decode cX6_text 84 = .ok (.iload_n 2, 1) := by decide +kernel
theorem dX6_text_85 : decode cX6_text 85 = .ok (.iconst 1, 1) := by decide +kernel
theorem dX6_text_86 : decode cX6_text 86 = .ok (.iadd, 1) := by decide +kernel
theorem dX6_text_87 : decode cX6_text 87 = .ok (.putfield 227, 3) := by decide +kernel
theorem dX6_text_90 : decode cX6_text 90 = .ok (.iload_n 2, 1) := by decide +kernel
theorem dX6_text_91 : decode cX6_text 91 = .ok (.ireturn, 1) := by decide +kernel
theorem dX6_textTold_0 : decode cX6_textTold 0 = .ok (.iload_n 1, 1) := by decide +kernel
theorem dX6_textTold_1 : decode cX6_textTold 1 = .ok (.iconst 0, 1) := by decide +kernel
theorem dX6_textTold_2 : decode cX6_textTold 2 = .ok (.aload_n 0, 1) := by decide +kernel
theorem dX6_textTold_3 : decode cX6_textTold 3 = .ok (.getfield 28, 3) := by decide +kernel
theorem dX6_textTold_6 : decode cX6_textTold 6 = .ok (.getfield 227, 3) := by decide +kernel
theorem dX6_textTold_9 : decode cX6_textTold 9 = .ok (.iconst 1, 1) := by decide +kernel
theorem dX6_textTold_10 : decode cX6_textTold 10 = .ok (.isub, 1) := by decide +kernel
theorem dX6_textTold_11 : decode cX6_textTold 11 = .ok (.invokestatic 63, 3) := by decide +kernel
theorem dX6_textTold_14 : decode cX6_textTold 14 = .ok (.ifCond .eq 6, 3) := by decide +kernel
theorem dX6_textTold_17 : decode cX6_textTold 17 = .ok (.ldc 67, 2) := by decide +kernel
theorem dX6_textTold_19 : decode cX6_textTold 19 = .ok (.ireturn, 1) := by decide +kernel
theorem dX6_textTold_20 : decode cX6_textTold 20 = .ok (.iload_n 2, 1) := by decide +kernel
theorem dX6_textTold_21 : decode cX6_textTold 21 = .ok (.lookupswitch 53 #[(0, 27), (1, 40)], 27) := by decide +kernel
theorem dX6_textTold_48 : decode cX6_textTold 48 = .ok (.aload_n 0, 1) := by decide +kernel
theorem dX6_textTold_49 : decode cX6_textTold 49 = .ok (.getfield 10, 3) := by decide +kernel
theorem dX6_textTold_52 : decode cX6_textTold 52 = .ok (.getfield 230, 3) := by decide +kernel
theorem dX6_textTold_55 : decode cX6_textTold 55 = .ok (.iload_n 1, 1) := by decide +kernel
theorem dX6_textTold_56 : decode cX6_textTold 56 = .ok (.aaload, 1) := by decide +kernel
theorem dX6_textTold_57 : decode cX6_textTold 57 = .ok (.getfield 242, 3) := by decide +kernel
theorem dX6_textTold_60 : decode cX6_textTold 60 = .ok (.ireturn, 1) := by decide +kernel
theorem dX6_textTold_61 : decode cX6_textTold 61 = .ok (.aload_n 0, 1) := by decide +kernel
theorem dX6_textTold_62 : decode cX6_textTold 62 = .ok (.getfield 10, 3) := by decide +kernel
theorem dX6_textTold_65 : decode cX6_textTold 65 = .ok (.getfield 230, 3) := by decide +kernel
theorem dX6_textTold_68 : decode cX6_textTold 68 = .ok (.iload_n 1, 1) := by decide +kernel
theorem dX6_textTold_69 : decode cX6_textTold 69 = .ok (.aaload, 1) := by decide +kernel
theorem dX6_textTold_70 : decode cX6_textTold 70 = .ok (.getfield 245, 3) := by decide +kernel
theorem dX6_textTold_73 : decode cX6_textTold 73 = .ok (.ireturn, 1) := by decide +kernel
theorem dX6_textTold_74 : decode cX6_textTold 74 = .ok (.ldc 67, 2) := by decide +kernel
theorem dX6_textTold_76 : decode cX6_textTold 76 = .ok (.ireturn, 1) := by decide +kernel
theorem dX6_why_0 : decode cX6_why 0 = .ok (.iload_n 1, 1) := by decide +kernel
theorem dX6_why_1 : decode cX6_why 1 = .ok (.iconst 0, 1) := by decide +kernel
theorem dX6_why_2 : decode cX6_why 2 = .ok (.iconst 2, 1) := by decide +kernel
theorem dX6_why_3 : decode cX6_why 3 = .ok (.invokestatic 63, 3) := by decide +kernel
theorem dX6_why_6 : decode cX6_why 6 = .ok (.ifCond .eq 6, 3) := by decide +kernel
theorem dX6_why_9 : decode cX6_why 9 = .ok (.ldc 67, 2) := by decide +kernel
theorem dX6_why_11 : decode cX6_why 11 = .ok (.ireturn, 1) := by decide +kernel
theorem dX6_why_12 : decode cX6_why 12 = .ok (.aload_n 0, 1) := by decide +kernel
theorem dX6_why_13 : decode cX6_why 13 = .ok (.getfield 28, 3) := by decide +kernel
theorem dX6_why_16 : decode cX6_why 16 = .ok (.getfield 209, 3) := by decide +kernel
theorem dX6_why_19 : decode cX6_why 19 = .ok (.iload_n 1, 1) := by decide +kernel
theorem dX6_why_20 : decode cX6_why 20 = .ok (.iaload, 1) := by decide +kernel
theorem dX6_why_21 : decode cX6_why 21 = .ok (.ifCond .ge 8, 3) := by decide +kernel
theorem dX6_why_24 : decode cX6_why 24 = .ok (.ldc 181, 2) := by decide +kernel
theorem dX6_why_26 : decode cX6_why 26 = .ok (.goto 12, 3) := by decide +kernel
theorem dX6_why_29 : decode cX6_why 29 = .ok (.aload_n 0, 1) := by decide +kernel
theorem dX6_why_30 : decode cX6_why 30 = .ok (.getfield 28, 3) := by decide +kernel
theorem dX6_why_33 : decode cX6_why 33 = .ok (.getfield 209, 3) := by decide +kernel
theorem dX6_why_36 : decode cX6_why 36 = .ok (.iload_n 1, 1) := by decide +kernel
theorem dX6_why_37 : decode cX6_why 37 = .ok (.iaload, 1) := by decide +kernel
theorem dX6_why_38 : decode cX6_why 38 = .ok (.ireturn, 1) := by decide +kernel
theorem dX6_sheet_0 : decode cX6_sheet 0 = .ok (.iload_n 1, 1) := by decide +kernel
theorem dX6_sheet_1 : decode cX6_sheet 1 = .ok (.invokestatic 190, 3) := by decide +kernel
theorem dX6_sheet_4 : decode cX6_sheet 4 = .ok (.ifCond .ne 12, 3) := by decide +kernel
theorem dX6_sheet_7 : decode cX6_sheet 7 = .ok (.iload_n 2, 1) := by decide +kernel
theorem dX6_sheet_8 : decode cX6_sheet 8 = .ok (.iconst (-1), 1) := by decide +kernel
theorem dX6_sheet_9 : decode cX6_sheet 9 = .ok (.iconst 1, 1) := by decide +kernel
theorem dX6_sheet_10 : decode cX6_sheet 10 = .ok (.invokestatic 63, 3) := by decide +kernel
theorem dX6_sheet_13 : decode cX6_sheet 13 = .ok (.ifCond .eq 6, 3) := by decide +kernel
theorem dX6_sheet_16 : decode cX6_sheet 16 = .ok (.ldc 67, 2) := by decide +kernel
theorem dX6_sheet_18 : decode cX6_sheet 18 = .ok (.ireturn, 1) := by decide +kernel
theorem dX6_sheet_19 : decode cX6_sheet 19 = .ok (.iload_n 2, 1) := by decide +kernel
theorem dX6_sheet_20 : decode cX6_sheet 20 = .ok (.iconst (-1), 1) := by decide +kernel
theorem dX6_sheet_21 : decode cX6_sheet 21 = .ok (.if_icmp .ne 16, 3) := by decide +kernel
theorem dX6_sheet_24 : decode cX6_sheet 24 = .ok (.aload_n 0, 1) := by decide +kernel
theorem dX6_sheet_25 : decode cX6_sheet 25 = .ok (.getfield 40, 3) := by decide +kernel
theorem dX6_sheet_28 : decode cX6_sheet 28 = .ok (.iload_n 1, 1) := by decide +kernel
theorem dX6_sheet_29 : decode cX6_sheet 29 = .ok (.aaload, 1) := by decide +kernel
theorem dX6_sheet_30 : decode cX6_sheet 30 = .ok (.iconst (-1), 1) := by decide +kernel
theorem dX6_sheet_31 : decode cX6_sheet 31 = .ok (.iconst 0, 1) := by decide +kernel
theorem dX6_sheet_32 : decode cX6_sheet 32 = .ok (.invokevirtual 248, 3) := by decide +kernel
theorem dX6_sheet_35 : decode cX6_sheet 35 = .ok (.iconst 0, 1) := by decide +kernel
theorem dX6_sheet_36 : decode cX6_sheet 36 = .ok (.ireturn, 1) := by decide +kernel
theorem dX6_sheet_37 : decode cX6_sheet 37 = .ok (.iload_n 3, 1) := by decide +kernel
theorem dX6_sheet_38 : decode cX6_sheet 38 = .ok (.bipush 24, 2) := by decide +kernel
theorem dX6_sheet_40 : decode cX6_sheet 40 = .ok (.if_icmp .le 6, 3) := by decide +kernel
theorem dX6_sheet_43 : decode cX6_sheet 43 = .ok (.ldc 67, 2) := by decide +kernel
theorem dX6_sheet_45 : decode cX6_sheet 45 = .ok (.ireturn, 1) := by decide +kernel
theorem dX6_sheet_46 : decode cX6_sheet 46 = .ok (.iload_n 3, 1) := by decide +kernel
theorem dX6_sheet_47 : decode cX6_sheet 47 = .ok (.ifCond .ge 6, 3) := by decide +kernel
theorem dX6_sheet_50 : decode cX6_sheet 50 = .ok (.ldc 252, 2) := by decide +kernel
theorem dX6_sheet_52 : decode cX6_sheet 52 = .ok (.ireturn, 1) := by decide +kernel
theorem dX6_sheet_53 : decode cX6_sheet 53 = .ok (.aload_n 0, 1) := by decide +kernel
theorem dX6_sheet_54 : decode cX6_sheet 54 = .ok (.getfield 40, 3) := by decide +kernel
theorem dX6_sheet_57 : decode cX6_sheet 57 = .ok (.iload_n 1, 1) := by decide +kernel
theorem dX6_sheet_58 : decode cX6_sheet 58 = .ok (.aaload, 1) := by decide +kernel
theorem dX6_sheet_59 : decode cX6_sheet 59 = .ok (.iload_n 2, 1) := by decide +kernel
theorem dX6_sheet_60 : decode cX6_sheet 60 = .ok (.iload_n 3, 1) := by decide +kernel
theorem dX6_sheet_61 : decode cX6_sheet 61 = .ok (.invokevirtual 248, 3) := by decide +kernel
theorem dX6_sheet_64 : decode cX6_sheet 64 = .ok (.iload_n 3, 1) := by decide +kernel
theorem dX6_sheet_65 : decode cX6_sheet 65 = .ok (.ireturn, 1) := by decide +kernel
theorem dX6_mark_0 : decode cX6_mark 0 = .ok (.iload_n 1, 1) := by decide +kernel
theorem dX6_mark_1 : decode cX6_mark 1 = .ok (.invokestatic 190, 3) := by decide +kernel
theorem dX6_mark_4 : decode cX6_mark 4 = .ok (.ifCond .eq 6, 3) := by decide +kernel
theorem dX6_mark_7 : decode cX6_mark 7 = .ok (.ldc 67, 2) := by decide +kernel
theorem dX6_mark_9 : decode cX6_mark 9 = .ok (.ireturn, 1) := by decide +kernel
theorem dX6_mark_10 : decode cX6_mark 10 = .ok (.aload_n 0, 1) := by decide +kernel
theorem dX6_mark_11 : decode cX6_mark 11 = .ok (.getfield 40, 3) := by decide +kernel
theorem dX6_mark_14 : decode cX6_mark 14 = .ok (.iload_n 1, 1) := by decide +kernel
theorem dX6_mark_15 : decode cX6_mark 15 = .ok (.aaload, 1) := by decide +kernel
theorem dX6_mark_16 : decode cX6_mark 16 = .ok (.astore 4, 2) := by decide +kernel
theorem dX6_mark_18 : decode cX6_mark 18 = .ok (.aload 4, 2) := by decide +kernel
theorem dX6_mark_20 : decode cX6_mark 20 = .ok (.getfield 193, 3) := by decide +kernel
theorem dX6_mark_23 : decode cX6_mark 23 = .ok (.iconst (-1), 1) := by decide +kernel
theorem dX6_mark_24 : decode cX6_mark 24 = .ok (.if_icmp .ne 6, 3) := by decide +kernel
theorem dX6_mark_27 : decode cX6_mark 27 = .ok (.ldc 196, 2) := by decide +kernel
theorem dX6_mark_29 : decode cX6_mark 29 = .ok (.ireturn, 1) := by decide +kernel
theorem dX6_mark_30 : decode cX6_mark 30 = .ok (.iload_n 2, 1) := by decide +kernel
theorem dX6_mark_31 : decode cX6_mark 31 = .ok (.iconst 0, 1) := by decide +kernel
theorem dX6_mark_32 : decode cX6_mark 32 = .ok (.aload 4, 2) := by decide +kernel
theorem dX6_mark_34 : decode cX6_mark 34 = .ok (.getfield 197, 3) := by decide +kernel
theorem dX6_mark_37 : decode cX6_mark 37 = .ok (.iconst 1, 1) := by decide +kernel
theorem dX6_mark_38 : decode cX6_mark 38 = .ok (.isub, 1) := by decide +kernel
theorem dX6_mark_39 : decode cX6_mark 39 = .ok (.invokestatic 63, 3) := by decide +kernel
theorem dX6_mark_42 : decode cX6_mark 42 = .ok (.ifCond .eq 6, 3) := by decide +kernel
theorem dX6_mark_45 : decode cX6_mark 45 = .ok (.ldc 253, 2) := by decide +kernel
theorem dX6_mark_47 : decode cX6_mark 47 = .ok (.ireturn, 1) := by decide +kernel
theorem dX6_mark_48 : decode cX6_mark 48 = .ok (.aload 4, 2) := by decide +kernel
theorem dX6_mark_50 : decode cX6_mark 50 = .ok (.getfield 193, 3) := by decide +kernel
theorem dX6_mark_53 : decode cX6_mark 53 = .ok (.ifCond .ne 23, 3) := by decide +kernel
theorem dX6_mark_56 : decode cX6_mark 56 = .ok (.iload_n 3, 1) := by decide +kernel
theorem dX6_mark_57 : decode cX6_mark 57 = .ok (.ldc 181, 2) := by decide +kernel
theorem dX6_mark_59 : decode cX6_mark 59 = .ok (.if_icmp .ne 6, 3) := by decide +kernel
theorem dX6_mark_62 : decode cX6_mark 62 = .ok (.ldc 106, 2) := by decide +kernel
theorem dX6_mark_64 : decode cX6_mark 64 = .ok (.ireturn, 1) := by decide +kernel
theorem dX6_mark_65 : decode cX6_mark 65 = .ok (.aload 4, 2) := by decide +kernel
theorem dX6_mark_67 : decode cX6_mark 67 = .ok (.getfield 203, 3) := by decide +kernel
theorem dX6_mark_70 : decode cX6_mark 70 = .ok (.iload_n 2, 1) := by decide +kernel
theorem dX6_mark_71 : decode cX6_mark 71 = .ok (.iload_n 3, 1) := by decide +kernel
theorem dX6_mark_72 : decode cX6_mark 72 = .ok (.i2s, 1) := by decide +kernel
theorem dX6_mark_73 : decode cX6_mark 73 = .ok (.iastore, 1) := by decide +kernel
theorem dX6_mark_74 : decode cX6_mark 74 = .ok (.iconst 1, 1) := by decide +kernel
theorem dX6_mark_75 : decode cX6_mark 75 = .ok (.ireturn, 1) := by decide +kernel
theorem dX6_mark_76 : decode cX6_mark 76 = .ok (.iload_n 3, 1) := by decide +kernel
theorem dX6_mark_77 : decode cX6_mark 77 = .ok (.ldc 181, 2) := by decide +kernel
theorem dX6_mark_79 : decode cX6_mark 79 = .ok (.if_icmp .eq 17, 3) := by decide +kernel
theorem dX6_mark_82 : decode cX6_mark 82 = .ok (.iload_n 3, 1) := by decide +kernel
theorem dX6_mark_83 : decode cX6_mark 83 = .ok (.ldc 254, 2) := by decide +kernel
theorem dX6_mark_85 : decode cX6_mark 85 = .ok (.ldc 255, 2) := by decide +kernel
theorem dX6_mark_87 : decode cX6_mark 87 = .ok (.invokestatic 63, 3) := by decide +kernel
theorem dX6_mark_90 : decode cX6_mark 90 = .ok (.ifCond .eq 6, 3) := by decide +kernel
theorem dX6_mark_93 : decode cX6_mark 93 = .ok (.ldc 67, 2) := by decide +kernel
theorem dX6_mark_95 : decode cX6_mark 95 = .ok (.ireturn, 1) := by decide +kernel
theorem dX6_mark_96 : decode cX6_mark 96 = .ok (.aload 4, 2) := by decide +kernel
theorem dX6_mark_98 : decode cX6_mark 98 = .ok (.getfield 203, 3) := by decide +kernel
theorem dX6_mark_101 : decode cX6_mark 101 = .ok (.iload_n 2, 1) := by decide +kernel
theorem dX6_mark_102 : decode cX6_mark 102 = .ok (.iload_n 3, 1) := by decide +kernel
theorem dX6_mark_103 : decode cX6_mark 103 = .ok (.iastore, 1) := by decide +kernel
theorem dX6_mark_104 : decode cX6_mark 104 = .ok (.iconst 1, 1) := by decide +kernel
theorem dX6_mark_105 : decode cX6_mark 105 = .ok (.ireturn, 1) := by decide +kernel
theorem dX6_pour_0 : decode cX6_pour 0 = .ok (.iload_n 1, 1) := by decide +kernel
theorem dX6_pour_1 : decode cX6_pour 1 = .ok (.invokestatic 190, 3) := by decide +kernel
theorem dX6_pour_4 : decode cX6_pour 4 = .ok (.ifCond .eq 6, 3) := by decide +kernel
theorem dX6_pour_7 : decode cX6_pour 7 = .ok (.ldc 67, 2) := by decide +kernel
theorem dX6_pour_9 : decode cX6_pour 9 = .ok (.ireturn, 1) := by decide +kernel
theorem dX6_pour_10 : decode cX6_pour 10 = .ok (.aload_n 0, 1) := by decide +kernel
theorem dX6_pour_11 : decode cX6_pour 11 = .ok (.getfield 40, 3) := by decide +kernel
theorem dX6_pour_14 : decode cX6_pour 14 = .ok (.iload_n 1, 1) := by decide +kernel
theorem dX6_pour_15 : decode cX6_pour 15 = .ok (.aaload, 1) := by decide +kernel
theorem dX6_pour_16 : decode cX6_pour 16 = .ok (.astore_n 2, 1) := by decide +kernel
theorem dX6_pour_17 : decode cX6_pour 17 = .ok (.aload_n 2, 1) := by decide +kernel
theorem dX6_pour_18 : decode cX6_pour 18 = .ok (.getfield 193, 3) := by decide +kernel
theorem dX6_pour_21 : decode cX6_pour 21 = .ok (.iconst (-1), 1) := by decide +kernel
theorem dX6_pour_22 : decode cX6_pour 22 = .ok (.if_icmp .ne 6, 3) := by decide +kernel
theorem dX6_pour_25 : decode cX6_pour 25 = .ok (.ldc 196, 2) := by decide +kernel
theorem dX6_pour_27 : decode cX6_pour 27 = .ok (.ireturn, 1) := by decide +kernel
theorem dX6_pour_28 : decode cX6_pour 28 = .ok (.iconst 0, 1) := by decide +kernel
theorem dX6_pour_29 : decode cX6_pour 29 = .ok (.istore_n 3, 1) := by decide +kernel
theorem dX6_pour_30 : decode cX6_pour 30 = .ok (.iconst 0, 1) := by decide +kernel
theorem dX6_pour_31 : decode cX6_pour 31 = .ok (.istore 4, 2) := by decide +kernel
theorem dX6_pour_33 : decode cX6_pour 33 = .ok (.iload 4, 2) := by decide +kernel
theorem dX6_pour_35 : decode cX6_pour 35 = .ok (.bipush 6, 2) := by decide +kernel
theorem dX6_pour_37 : decode cX6_pour 37 = .ok (.if_icmp .ge 72, 3) := by decide +kernel
theorem dX6_pour_40 : decode cX6_pour 40 = .ok (.iload 4, 2) := by decide +kernel
theorem dX6_pour_42 : decode cX6_pour 42 = .ok (.aload_n 2, 1) := by decide +kernel
theorem dX6_pour_43 : decode cX6_pour 43 = .ok (.getfield 197, 3) := by decide +kernel
theorem dX6_pour_46 : decode cX6_pour 46 = .ok (.if_icmp .ge 63, 3) := by decide +kernel
theorem dX6_pour_49 : decode cX6_pour 49 = .ok (.aload_n 2, 1) := by decide +kernel
theorem dX6_pour_50 : decode cX6_pour 50 = .ok (.iload 4, 2) := by decide +kernel
theorem dX6_pour_52 : decode cX6_pour 52 = .ok (.invokevirtual 200, 3) := by decide +kernel
theorem dX6_pour_55 : decode cX6_pour 55 = .ok (.ifCond .eq 48, 3) := by decide +kernel
theorem dX6_pour_58 : decode cX6_pour 58 = .ok (.aload_n 2, 1) := by decide +kernel
theorem dX6_pour_59 : decode cX6_pour 59 = .ok (.getfield 203, 3) := by decide +kernel
theorem dX6_pour_62 : decode cX6_pour 62 = .ok (.iload 4, 2) := by decide +kernel
theorem dX6_pour_64 : decode cX6_pour 64 = .ok (.iaload, 1) := by decide +kernel
theorem dX6_pour_65 : decode cX6_pour 65 = .ok (.iconst 0, 1) := by decide +kernel
theorem dX6_pour_66 : decode cX6_pour 66 = .ok (.bipush 9, 2) := by decide +kernel
theorem dX6_pour_68 : decode cX6_pour 68 = .ok (.invokestatic 256, 3) := by decide +kernel
theorem dX6_pour_71 : decode cX6_pour 71 = .ok (.istore 5, 2) := by decide +kernel
theorem dX6_pour_73 : decode cX6_pour 73 = .ok (.iload 5, 2) := by decide +kernel
theorem dX6_pour_75 : decode cX6_pour 75 = .ok (.aload_n 0, 1) := by decide +kernel
theorem dX6_pour_76 : decode cX6_pour 76 = .ok (.getfield 28, 3) := by decide +kernel
theorem dX6_pour_79 : decode cX6_pour 79 = .ok (.getfield 128, 3) := by decide +kernel
theorem dX6_pour_82 : decode cX6_pour 82 = .ok (.iload 4, 2) := by decide +kernel
theorem dX6_pour_84 : decode cX6_pour 84 = .ok (.iaload, 1) := by decide +kernel
theorem dX6_pour_85 : decode cX6_pour 85 = .ok (.if_icmp .eq 6, 3) := by decide +kernel
theorem dX6_pour_88 : decode cX6_pour 88 = .ok (.iinc 3 1, 3) := by decide +kernel
theorem dX6_pour_91 : decode cX6_pour 91 = .ok (.aload_n 0, 1) := by decide +kernel
theorem dX6_pour_92 : decode cX6_pour 92 = .ok (.getfield 28, 3) := by decide +kernel
theorem dX6_pour_95 : decode cX6_pour 95 = .ok (.getfield 128, 3) := by decide +kernel
theorem dX6_pour_98 : decode cX6_pour 98 = .ok (.iload 4, 2) := by decide +kernel
theorem dX6_pour_100 : decode cX6_pour 100 = .ok (.iload 5, 2) := by decide +kernel
theorem dX6_pour_102 : decode cX6_pour 102 = .ok (.iastore, 1) := by decide +kernel
theorem dX6_pour_103 : decode cX6_pour 103 = .ok (.iinc 4 1, 3) := by decide +kernel
theorem dX6_pour_106 : decode cX6_pour 106 = .ok (.goto (-73), 3) := by decide +kernel
theorem dX6_pour_109 : decode cX6_pour 109 = .ok (.iload_n 3, 1) := by decide +kernel
theorem dX6_pour_110 : decode cX6_pour 110 = .ok (.ireturn, 1) := by decide +kernel
theorem dX6_reads_0 : decode cX6_reads 0 = .ok (.iload_n 1, 1) := by decide +kernel
theorem dX6_reads_1 : decode cX6_reads 1 = .ok (.invokestatic 190, 3) := by decide +kernel
theorem dX6_reads_4 : decode cX6_reads 4 = .ok (.ifCond .eq 6, 3) := by decide +kernel
theorem dX6_reads_7 : decode cX6_reads 7 = .ok (.ldc 67, 2) := by decide +kernel
theorem dX6_reads_9 : decode cX6_reads 9 = .ok (.ireturn, 1) := by decide +kernel
theorem dX6_reads_10 : decode cX6_reads 10 = .ok (.aload_n 0, 1) := by decide +kernel
theorem dX6_reads_11 : decode cX6_reads 11 = .ok (.getfield 40, 3) := by decide +kernel
theorem dX6_reads_14 : decode cX6_reads 14 = .ok (.iload_n 1, 1) := by decide +kernel
theorem dX6_reads_15 : decode cX6_reads 15 = .ok (.aaload, 1) := by decide +kernel
theorem dX6_reads_16 : decode cX6_reads 16 = .ok (.astore_n 2, 1) := by decide +kernel
theorem dX6_reads_17 : decode cX6_reads 17 = .ok (.aload_n 2, 1) := by decide +kernel
theorem dX6_reads_18 : decode cX6_reads 18 = .ok (.getfield 193, 3) := by decide +kernel
theorem dX6_reads_21 : decode cX6_reads 21 = .ok (.iconst (-1), 1) := by decide +kernel
theorem dX6_reads_22 : decode cX6_reads 22 = .ok (.if_icmp .ne 6, 3) := by decide +kernel
theorem dX6_reads_25 : decode cX6_reads 25 = .ok (.ldc 196, 2) := by decide +kernel
theorem dX6_reads_27 : decode cX6_reads 27 = .ok (.ireturn, 1) := by decide +kernel
theorem dX6_reads_28 : decode cX6_reads 28 = .ok (.iconst 0, 1) := by decide +kernel
theorem dX6_reads_29 : decode cX6_reads 29 = .ok (.istore_n 3, 1) := by decide +kernel
theorem dX6_reads_30 : decode cX6_reads 30 = .ok (.iload_n 3, 1) := by decide +kernel
theorem dX6_reads_31 : decode cX6_reads 31 = .ok (.aload_n 2, 1) := by decide +kernel
theorem dX6_reads_32 : decode cX6_reads 32 = .ok (.getfield 197, 3) := by decide +kernel
theorem dX6_reads_35 : decode cX6_reads 35 = .ok (.if_icmp .ge 43, 3) := by decide +kernel
theorem dX6_reads_38 : decode cX6_reads 38 = .ok (.aload_n 2, 1) := by decide +kernel
theorem dX6_reads_39 : decode cX6_reads 39 = .ok (.iload_n 3, 1) := by decide +kernel
theorem dX6_reads_40 : decode cX6_reads 40 = .ok (.invokevirtual 200, 3) := by decide +kernel
theorem dX6_reads_43 : decode cX6_reads 43 = .ok (.ifCond .eq 29, 3) := by decide +kernel
theorem dX6_reads_46 : decode cX6_reads 46 = .ok (.iload_n 3, 1) := by decide +kernel
theorem dX6_reads_47 : decode cX6_reads 47 = .ok (.bipush 6, 2) := by decide +kernel
theorem dX6_reads_49 : decode cX6_reads 49 = .ok (.if_icmp .ge 21, 3) := by decide +kernel
theorem dX6_reads_52 : decode cX6_reads 52 = .ok (.aload_n 2, 1) := by decide +kernel
theorem dX6_reads_53 : decode cX6_reads 53 = .ok (.getfield 203, 3) := by decide +kernel
theorem dX6_reads_56 : decode cX6_reads 56 = .ok (.iload_n 3, 1) := by decide +kernel
theorem dX6_reads_57 : decode cX6_reads 57 = .ok (.iaload, 1) := by decide +kernel
theorem dX6_reads_58 : decode cX6_reads 58 = .ok (.aload_n 0, 1) := by decide +kernel
theorem dX6_reads_59 : decode cX6_reads 59 = .ok (.getfield 28, 3) := by decide +kernel
theorem dX6_reads_62 : decode cX6_reads 62 = .ok (.getfield 134, 3) := by decide +kernel
theorem dX6_reads_65 : decode cX6_reads 65 = .ok (.iload_n 3, 1) := by decide +kernel
theorem dX6_reads_66 : decode cX6_reads 66 = .ok (.iaload, 1) := by decide +kernel
theorem dX6_reads_67 : decode cX6_reads 67 = .ok (.if_icmp .eq 5, 3) := by decide +kernel
theorem dX6_reads_70 : decode cX6_reads 70 = .ok (.iload_n 3, 1) := by decide +kernel
theorem dX6_reads_71 : decode cX6_reads 71 = .ok (.ireturn, 1) := by decide +kernel
theorem dX6_reads_72 : decode cX6_reads 72 = .ok (.iinc 3 1, 3) := by decide +kernel
theorem dX6_reads_75 : decode cX6_reads 75 = .ok (.goto (-45), 3) := by decide +kernel
theorem dX6_reads_78 : decode cX6_reads 78 = .ok (.ldc 181, 2) := by decide +kernel
theorem dX6_reads_80 : decode cX6_reads 80 = .ok (.ireturn, 1) := by decide +kernel
theorem dX6_copy_0 : decode cX6_copy 0 = .ok (.iload_n 1, 1) := by decide +kernel
theorem dX6_copy_1 : decode cX6_copy 1 = .ok (.invokestatic 190, 3) := by decide +kernel
theorem dX6_copy_4 : decode cX6_copy 4 = .ok (.ifCond .ne 10, 3) := by decide +kernel
theorem dX6_copy_7 : decode cX6_copy 7 = .ok (.iload_n 3, 1) := by decide +kernel
theorem dX6_copy_8 : decode cX6_copy 8 = .ok (.invokestatic 190, 3) := by decide +kernel
theorem dX6_copy_11 : decode cX6_copy 11 = .ok (.ifCond .eq 6, 3) := by decide +kernel
theorem dX6_copy_14 : decode cX6_copy 14 = .ok (.ldc 67, 2) := by decide +kernel
theorem dX6_copy_16 : decode cX6_copy 16 = .ok (.ireturn, 1) := by decide +kernel
theorem dX6_copy_17 : decode cX6_copy 17 = .ok (.aload_n 0, 1) := by decide +kernel
theorem dX6_copy_18 : decode cX6_copy 18 = .ok (.getfield 40, 3) := by decide +kernel
theorem dX6_copy_21 : decode cX6_copy 21 = .ok (.iload_n 1, 1) := by decide +kernel
theorem dX6_copy_22 : decode cX6_copy 22 = .ok (.aaload, 1) := by decide +kernel
theorem dX6_copy_23 : decode cX6_copy 23 = .ok (.astore 6, 2) := by decide +kernel
theorem dX6_copy_25 : decode cX6_copy 25 = .ok (.aload_n 0, 1) := by decide +kernel
theorem dX6_copy_26 : decode cX6_copy 26 = .ok (.getfield 40, 3) := by decide +kernel
theorem dX6_copy_29 : decode cX6_copy 29 = .ok (.iload_n 3, 1) := by decide +kernel
theorem dX6_copy_30 : decode cX6_copy 30 = .ok (.aaload, 1) := by decide +kernel
theorem dX6_copy_31 : decode cX6_copy 31 = .ok (.astore 7, 2) := by decide +kernel
theorem dX6_copy_33 : decode cX6_copy 33 = .ok (.aload 6, 2) := by decide +kernel
theorem dX6_copy_35 : decode cX6_copy 35 = .ok (.getfield 193, 3) := by decide +kernel
theorem dX6_copy_38 : decode cX6_copy 38 = .ok (.iconst (-1), 1) := by decide +kernel
theorem dX6_copy_39 : decode cX6_copy 39 = .ok (.if_icmp .eq 12, 3) := by decide +kernel
theorem dX6_copy_42 : decode cX6_copy 42 = .ok (.aload 7, 2) := by decide +kernel
theorem dX6_copy_44 : decode cX6_copy 44 = .ok (.getfield 193, 3) := by decide +kernel
theorem dX6_copy_47 : decode cX6_copy 47 = .ok (.iconst (-1), 1) := by decide +kernel
theorem dX6_copy_48 : decode cX6_copy 48 = .ok (.if_icmp .ne 6, 3) := by decide +kernel
theorem dX6_copy_51 : decode cX6_copy 51 = .ok (.ldc 196, 2) := by decide +kernel
theorem dX6_copy_53 : decode cX6_copy 53 = .ok (.ireturn, 1) := by decide +kernel
theorem dX6_copy_54 : decode cX6_copy 54 = .ok (.aload 6, 2) := by decide +kernel
theorem dX6_copy_56 : decode cX6_copy 56 = .ok (.getfield 193, 3) := by decide +kernel
theorem dX6_copy_59 : decode cX6_copy 59 = .ok (.aload 7, 2) := by decide +kernel
theorem dX6_copy_61 : decode cX6_copy 61 = .ok (.getfield 193, 3) := by decide +kernel
theorem dX6_copy_64 : decode cX6_copy 64 = .ok (.if_icmp .eq 6, 3) := by decide +kernel
theorem dX6_copy_67 : decode cX6_copy 67 = .ok (.ldc 106, 2) := by decide +kernel
theorem dX6_copy_69 : decode cX6_copy 69 = .ok (.ireturn, 1) := by decide +kernel
theorem dX6_copy_70 : decode cX6_copy 70 = .ok (.aload 6, 2) := by decide +kernel
theorem dX6_copy_72 : decode cX6_copy 72 = .ok (.iload_n 2, 1) := by decide +kernel
theorem dX6_copy_73 : decode cX6_copy 73 = .ok (.iload 5, 2) := by decide +kernel
theorem dX6_copy_75 : decode cX6_copy 75 = .ok (.invokevirtual 259, 3) := by decide +kernel
theorem dX6_copy_78 : decode cX6_copy 78 = .ok (.ifCond .ne 15, 3) := by decide +kernel
theorem dX6_copy_81 : decode cX6_copy 81 = .ok (.aload 7, 2) := by decide +kernel
theorem dX6_copy_83 : decode cX6_copy 83 = .ok (.iload 4, 2) := by decide +kernel
theorem dX6_copy_85 : decode cX6_copy 85 = .ok (.iload 5, 2) := by decide +kernel
theorem dX6_copy_87 : decode cX6_copy 87 = .ok (.invokevirtual 259, 3) := by decide +kernel
theorem dX6_copy_90 : decode cX6_copy 90 = .ok (.ifCond .eq 6, 3) := by decide +kernel
theorem dX6_copy_93 : decode cX6_copy 93 = .ok (.ldc 253, 2) := by decide +kernel
theorem dX6_copy_95 : decode cX6_copy 95 = .ok (.ireturn, 1) := by decide +kernel
theorem dX6_copy_96 : decode cX6_copy 96 = .ok (.aload 6, 2) := by decide +kernel
theorem dX6_copy_98 : decode cX6_copy 98 = .ok (.getfield 203, 3) := by decide +kernel
theorem dX6_copy_101 : decode cX6_copy 101 = .ok (.iload_n 2, 1) := by decide +kernel
theorem dX6_copy_102 : decode cX6_copy 102 = .ok (.aload 7, 2) := by decide +kernel
theorem dX6_copy_104 : decode cX6_copy 104 = .ok (.getfield 203, 3) := by decide +kernel
theorem dX6_copy_107 : decode cX6_copy 107 = .ok (.iload 4, 2) := by decide +kernel
theorem dX6_copy_109 : decode cX6_copy 109 = .ok (.iload 5, 2) := by decide +kernel
theorem dX6_copy_111 : decode cX6_copy 111 = .ok (.invokestatic 262, 3) := by decide +kernel
theorem dX6_copy_114 : decode cX6_copy 114 = .ok (.iload 5, 2) := by decide +kernel
theorem dX6_copy_116 : decode cX6_copy 116 = .ok (.ireturn, 1) := by decide +kernel
theorem dX6_lay_0 : decode cX6_lay 0 = .ok (.iload_n 1, 1) := by decide +kernel
theorem dX6_lay_1 : decode cX6_lay 1 = .ok (.invokestatic 268, 3) := by decide +kernel
theorem dX6_lay_4 : decode cX6_lay 4 = .ok (.ifCond .ne 12, 3) := by decide +kernel
theorem dX6_lay_7 : decode cX6_lay 7 = .ok (.iload_n 2, 1) := by decide +kernel
theorem dX6_lay_8 : decode cX6_lay 8 = .ok (.iconst 0, 1) := by decide +kernel
theorem dX6_lay_9 : decode cX6_lay 9 = .ok (.iconst 3, 1) := by decide +kernel
theorem dX6_lay_10 : decode cX6_lay 10 = .ok (.invokestatic 63, 3) := by decide +kernel
theorem dX6_lay_13 : decode cX6_lay 13 = .ok (.ifCond .eq 6, 3) := by decide +kernel
theorem dX6_lay_16 : decode cX6_lay 16 = .ok (.ldc 67, 2) := by decide +kernel
theorem dX6_lay_18 : decode cX6_lay 18 = .ok (.ireturn, 1) := by decide +kernel
theorem dX6_lay_19 : decode cX6_lay 19 = .ok (.iload_n 2, 1) := by decide +kernel
theorem dX6_lay_20 : decode cX6_lay 20 = .ok (.iconst 1, 1) := by decide +kernel
theorem dX6_lay_21 : decode cX6_lay 21 = .ok (.if_icmp .ne 11, 3) := by decide +kernel
theorem dX6_lay_24 : decode cX6_lay 24 = .ok (.aload_n 0, 1) := by decide +kernel
theorem dX6_lay_25 : decode cX6_lay 25 = .ok (.iload_n 3, 1) := by decide +kernel
theorem dX6_lay_26 : decode cX6_lay 26 = .ok (.invokevirtual 77, 3) := by decide +kernel
theorem dX6_lay_29 : decode cX6_lay 29 = .ok (.ifCond .ne 15, 3) := by decide +kernel
theorem dX6_lay_32 : decode cX6_lay 32 = .ok (.iload_n 2, 1) := by decide +kernel
theorem dX6_lay_33 : decode cX6_lay 33 = .ok (.iconst 2, 1) := by decide +kernel
theorem dX6_lay_34 : decode cX6_lay 34 = .ok (.if_icmp .ne 13, 3) := by decide +kernel
theorem dX6_lay_37 : decode cX6_lay 37 = .ok (.iload_n 3, 1) := by decide +kernel
theorem dX6_lay_38 : decode cX6_lay 38 = .ok (.invokestatic 190, 3) := by decide +kernel
theorem dX6_lay_41 : decode cX6_lay 41 = .ok (.ifCond .eq 6, 3) := by decide +kernel
theorem dX6_lay_44 : decode cX6_lay 44 = .ok (.ldc 67, 2) := by decide +kernel
theorem dX6_lay_46 : decode cX6_lay 46 = .ok (.ireturn, 1) := by decide +kernel
theorem dX6_lay_47 : decode cX6_lay 47 = .ok (.iload_n 2, 1) := by decide +kernel
theorem dX6_lay_48 : decode cX6_lay 48 = .ok (.iconst 2, 1) := by decide +kernel
theorem dX6_lay_49 : decode cX6_lay 49 = .ok (.if_icmp .ne 19, 3) := by decide +kernel
theorem dX6_lay_52 : decode cX6_lay 52 = .ok (.aload_n 0, 1) := by decide +kernel
theorem dX6_lay_53 : decode cX6_lay 53 = .ok (.getfield 40, 3) := by decide +kernel
theorem dX6_lay_56 : decode cX6_lay 56 = .ok (.iload_n 3, 1) := by decide +kernel
theorem dX6_lay_57 : decode cX6_lay 57 = .ok (.aaload, 1) := by decide +kernel
theorem dX6_lay_58 : decode cX6_lay 58 = .ok (.getfield 193, 3) := by decide +kernel
theorem dX6_lay_61 : decode cX6_lay 61 = .ok (.iconst (-1), 1) := by decide +kernel
theorem dX6_lay_62 : decode cX6_lay 62 = .ok (.if_icmp .ne 6, 3) := by decide +kernel
theorem dX6_lay_65 : decode cX6_lay 65 = .ok (.ldc 196, 2) := by decide +kernel
theorem dX6_lay_67 : decode cX6_lay 67 = .ok (.ireturn, 1) := by decide +kernel
theorem dX6_lay_68 : decode cX6_lay 68 = .ok (.aload_n 0, 1) := by decide +kernel
theorem dX6_lay_69 : decode cX6_lay 69 = .ok (.getfield 47, 3) := by decide +kernel
theorem dX6_lay_72 : decode cX6_lay 72 = .ok (.iload_n 1, 1) := by decide +kernel
theorem dX6_lay_73 : decode cX6_lay 73 = .ok (.aaload, 1) := by decide +kernel
theorem dX6_lay_74 : decode cX6_lay 74 = .ok (.astore 4, 2) := by decide +kernel
theorem dX6_lay_76 : decode cX6_lay 76 = .ok (.aload 4, 2) := by decide +kernel
theorem dX6_lay_78 : decode cX6_lay 78 = .ok (.getfield 271, 3) := by decide +kernel
theorem dX6_lay_81 : decode cX6_lay 81 = .ok (.istore 5, 2) := by decide +kernel
theorem dX6_lay_83 : decode cX6_lay 83 = .ok (.aload 4, 2) := by decide +kernel
theorem dX6_lay_85 : decode cX6_lay 85 = .ok (.iload_n 2, 1) := by decide +kernel
theorem dX6_lay_86 : decode cX6_lay 86 = .ok (.putfield 271, 3) := by decide +kernel
theorem dX6_lay_89 : decode cX6_lay 89 = .ok (.iload_n 2, 1) := by decide +kernel
theorem dX6_lay_90 : decode cX6_lay 90 = .ok (.iconst 1, 1) := by decide +kernel
end
section
theorem dX6_lay_91 : decode cX6_lay 91 = .ok (.if_icmp .ne 20, 3) := by decide +kernel
theorem dX6_lay_94 : decode cX6_lay 94 = .ok (.aload 4, 2) := by decide +kernel
theorem dX6_lay_96 : decode cX6_lay 96 = .ok (.aload_n 0, 1) := by decide +kernel
theorem dX6_lay_97 : decode cX6_lay 97 = .ok (.getfield 28, 3) := by decide +kernel
theorem dX6_lay_100 : decode cX6_lay 100 = .ok (.getfield 80, 3) := by decide +kernel
theorem dX6_lay_103 : decode cX6_lay 103 = .ok (.iload_n 3, 1) := by decide +kernel
theorem dX6_lay_104 : decode cX6_lay 104 = .ok (.iaload, 1) := by decide +kernel
theorem dX6_lay_105 : decode cX6_lay 105 = .ok (.putfield 274, 3) := by decide +kernel
theorem dX6_lay_108 : decode cX6_lay 108 = .ok (.goto 31, 3) := by decide +kernel
theorem dX6_lay_111 : decode cX6_lay 111 = .ok (.iload_n 2, 1) := by decide +kernel
theorem dX6_lay_112 : decode cX6_lay 112 = .ok (.iconst 2, 1) := by decide +kernel
theorem dX6_lay_113 : decode cX6_lay 113 = .ok (.if_icmp .ne 20, 3) := by decide +kernel
theorem dX6_lay_116 : decode cX6_lay 116 = .ok (.aload 4, 2) := by decide +kernel
theorem dX6_lay_118 : decode cX6_lay 118 = .ok (.getfield 276, 3) := by decide +kernel
theorem dX6_lay_121 : decode cX6_lay 121 = .ok (.aload_n 0, 1) := by decide +kernel
theorem dX6_lay_122 : decode cX6_lay 122 = .ok (.getfield 40, 3) := by decide +kernel
theorem dX6_lay_125 : decode cX6_lay 125 = .ok (.iload_n 3, 1) := by decide +kernel
theorem dX6_lay_126 : decode cX6_lay 126 = .ok (.aaload, 1) := by decide +kernel
theorem dX6_lay_127 : decode cX6_lay 127 = .ok (.invokevirtual 280, 3) := by decide +kernel
theorem dX6_lay_130 : decode cX6_lay 130 = .ok (.goto 9, 3) := by decide +kernel
theorem dX6_lay_133 : decode cX6_lay 133 = .ok (.aload 4, 2) := by decide +kernel
theorem dX6_lay_135 : decode cX6_lay 135 = .ok (.iload_n 3, 1) := by decide +kernel
theorem dX6_lay_136 : decode cX6_lay 136 = .ok (.putfield 283, 3) := by decide +kernel
theorem dX6_lay_139 : decode cX6_lay 139 = .ok (.iload 5, 2) := by decide +kernel
theorem dX6_lay_141 : decode cX6_lay 141 = .ok (.ireturn, 1) := by decide +kernel
theorem dX6_ask_0 : decode cX6_ask 0 = .ok (.iload_n 1, 1) := by decide +kernel
theorem dX6_ask_1 : decode cX6_ask 1 = .ok (.invokestatic 268, 3) := by decide +kernel
theorem dX6_ask_4 : decode cX6_ask 4 = .ok (.ifCond .ne 10, 3) := by decide +kernel
theorem dX6_ask_7 : decode cX6_ask 7 = .ok (.iload_n 2, 1) := by decide +kernel
theorem dX6_ask_8 : decode cX6_ask 8 = .ok (.invokestatic 59, 3) := by decide +kernel
theorem dX6_ask_11 : decode cX6_ask 11 = .ok (.ifCond .eq 6, 3) := by decide +kernel
theorem dX6_ask_14 : decode cX6_ask 14 = .ok (.ldc 67, 2) := by decide +kernel
theorem dX6_ask_16 : decode cX6_ask 16 = .ok (.ireturn, 1) := by decide +kernel
theorem dX6_ask_17 : decode cX6_ask 17 = .ok (.aload_n 0, 1) := by decide +kernel
theorem dX6_ask_18 : decode cX6_ask 18 = .ok (.getfield 47, 3) := by decide +kernel
theorem dX6_ask_21 : decode cX6_ask 21 = .ok (.iload_n 1, 1) := by decide +kernel
theorem dX6_ask_22 : decode cX6_ask 22 = .ok (.aaload, 1) := by decide +kernel
theorem dX6_ask_23 : decode cX6_ask 23 = .ok (.astore_n 3, 1) := by decide +kernel
theorem dX6_ask_24 : decode cX6_ask 24 = .ok (.aload_n 3, 1) := by decide +kernel
theorem dX6_ask_25 : decode cX6_ask 25 = .ok (.getfield 271, 3) := by decide +kernel
theorem dX6_ask_28 : decode cX6_ask 28 = .ok (.ifCond .ne 6, 3) := by decide +kernel
theorem dX6_ask_31 : decode cX6_ask 31 = .ok (.ldc 196, 2) := by decide +kernel
theorem dX6_ask_33 : decode cX6_ask 33 = .ok (.ireturn, 1) := by decide +kernel
theorem dX6_ask_34 : decode cX6_ask 34 = .ok (.aload_n 3, 1) := by decide +kernel
theorem dX6_ask_35 : decode cX6_ask 35 = .ok (.getfield 271, 3) := by decide +kernel
theorem dX6_ask_38 : decode cX6_ask 38 = .ok (.iconst 1, 1) := by decide +kernel
theorem dX6_ask_39 : decode cX6_ask 39 = .ok (.if_icmp .ne 14, 3) := by decide +kernel
theorem dX6_ask_42 : decode cX6_ask 42 = .ok (.aload_n 3, 1) := by decide +kernel
theorem dX6_ask_43 : decode cX6_ask 43 = .ok (.getfield 274, 3) := by decide +kernel
theorem dX6_ask_46 : decode cX6_ask 46 = .ok (.iload_n 2, 1) := by decide +kernel
theorem dX6_ask_47 : decode cX6_ask 47 = .ok (.invokestatic 102, 3) := by decide +kernel
theorem dX6_ask_50 : decode cX6_ask 50 = .ok (.ifCond .ne 6, 3) := by decide +kernel
theorem dX6_ask_53 : decode cX6_ask 53 = .ok (.ldc 106, 2) := by decide +kernel
theorem dX6_ask_55 : decode cX6_ask 55 = .ok (.ireturn, 1) := by decide +kernel
theorem dX6_ask_56 : decode cX6_ask 56 = .ok (.getstatic 92, 3) := by decide +kernel
theorem dX6_ask_59 : decode cX6_ask 59 = .ok (.aload_n 3, 1) := by decide +kernel
theorem dX6_ask_60 : decode cX6_ask 60 = .ok (.getfield 274, 3) := by decide +kernel
theorem dX6_ask_63 : decode cX6_ask 63 = .ok (.iaload, 1) := by decide +kernel
theorem dX6_ask_64 : decode cX6_ask 64 = .ok (.ireturn, 1) := by decide +kernel
theorem dX6_item_0 : decode cX6_item 0 = .ok (.iload_n 1, 1) := by decide +kernel
theorem dX6_item_1 : decode cX6_item 1 = .ok (.invokestatic 268, 3) := by decide +kernel
theorem dX6_item_4 : decode cX6_item 4 = .ok (.ifCond .eq 6, 3) := by decide +kernel
theorem dX6_item_7 : decode cX6_item 7 = .ok (.ldc 67, 2) := by decide +kernel
theorem dX6_item_9 : decode cX6_item 9 = .ok (.ireturn, 1) := by decide +kernel
theorem dX6_item_10 : decode cX6_item 10 = .ok (.aload_n 0, 1) := by decide +kernel
theorem dX6_item_11 : decode cX6_item 11 = .ok (.getfield 47, 3) := by decide +kernel
theorem dX6_item_14 : decode cX6_item 14 = .ok (.iload_n 1, 1) := by decide +kernel
theorem dX6_item_15 : decode cX6_item 15 = .ok (.aaload, 1) := by decide +kernel
theorem dX6_item_16 : decode cX6_item 16 = .ok (.astore_n 3, 1) := by decide +kernel
theorem dX6_item_17 : decode cX6_item 17 = .ok (.aload_n 3, 1) := by decide +kernel
theorem dX6_item_18 : decode cX6_item 18 = .ok (.getfield 271, 3) := by decide +kernel
theorem dX6_item_21 : decode cX6_item 21 = .ok (.ifCond .ne 6, 3) := by decide +kernel
theorem dX6_item_24 : decode cX6_item 24 = .ok (.ldc 196, 2) := by decide +kernel
theorem dX6_item_26 : decode cX6_item 26 = .ok (.ireturn, 1) := by decide +kernel
theorem dX6_item_27 : decode cX6_item 27 = .ok (.aload_n 3, 1) := by decide +kernel
theorem dX6_item_28 : decode cX6_item 28 = .ok (.getfield 271, 3) := by decide +kernel
theorem dX6_item_31 : decode cX6_item 31 = .ok (.iconst 2, 1) := by decide +kernel
theorem dX6_item_32 : decode cX6_item 32 = .ok (.if_icmp .eq 6, 3) := by decide +kernel
theorem dX6_item_35 : decode cX6_item 35 = .ok (.ldc 106, 2) := by decide +kernel
theorem dX6_item_37 : decode cX6_item 37 = .ok (.ireturn, 1) := by decide +kernel
theorem dX6_item_38 : decode cX6_item 38 = .ok (.iload_n 2, 1) := by decide +kernel
theorem dX6_item_39 : decode cX6_item 39 = .ok (.iconst 0, 1) := by decide +kernel
theorem dX6_item_40 : decode cX6_item 40 = .ok (.aload_n 3, 1) := by decide +kernel
theorem dX6_item_41 : decode cX6_item 41 = .ok (.getfield 276, 3) := by decide +kernel
theorem dX6_item_44 : decode cX6_item 44 = .ok (.getfield 197, 3) := by decide +kernel
theorem dX6_item_47 : decode cX6_item 47 = .ok (.iconst 1, 1) := by decide +kernel
theorem dX6_item_48 : decode cX6_item 48 = .ok (.isub, 1) := by decide +kernel
theorem dX6_item_49 : decode cX6_item 49 = .ok (.invokestatic 63, 3) := by decide +kernel
theorem dX6_item_52 : decode cX6_item 52 = .ok (.ifCond .eq 6, 3) := by decide +kernel
theorem dX6_item_55 : decode cX6_item 55 = .ok (.ldc 253, 2) := by decide +kernel
theorem dX6_item_57 : decode cX6_item 57 = .ok (.ireturn, 1) := by decide +kernel
theorem dX6_item_58 : decode cX6_item 58 = .ok (.aload_n 3, 1) := by decide +kernel
theorem dX6_item_59 : decode cX6_item 59 = .ok (.getfield 276, 3) := by decide +kernel
theorem dX6_item_62 : decode cX6_item 62 = .ok (.iload_n 2, 1) := by decide +kernel
theorem dX6_item_63 : decode cX6_item 63 = .ok (.invokevirtual 200, 3) := by decide +kernel
theorem dX6_item_66 : decode cX6_item 66 = .ok (.ifCond .eq 15, 3) := by decide +kernel
theorem dX6_item_69 : decode cX6_item 69 = .ok (.aload_n 3, 1) := by decide +kernel
theorem dX6_item_70 : decode cX6_item 70 = .ok (.getfield 276, 3) := by decide +kernel
theorem dX6_item_73 : decode cX6_item 73 = .ok (.getfield 203, 3) := by decide +kernel
theorem dX6_item_76 : decode cX6_item 76 = .ok (.iload_n 2, 1) := by decide +kernel
theorem dX6_item_77 : decode cX6_item 77 = .ok (.iaload, 1) := by decide +kernel
theorem dX6_item_78 : decode cX6_item 78 = .ok (.goto 5, 3) := by decide +kernel
theorem dX6_item_81 : decode cX6_item 81 = .ok (.ldc 106, 2) := by decide +kernel
theorem dX6_item_83 : decode cX6_item 83 = .ok (.ireturn, 1) := by decide +kernel
theorem dX6_rest_0 : decode cX6_rest 0 = .ok (.iload_n 1, 1) := by decide +kernel
theorem dX6_rest_1 : decode cX6_rest 1 = .ok (.invokestatic 268, 3) := by decide +kernel
theorem dX6_rest_4 : decode cX6_rest 4 = .ok (.ifCond .eq 6, 3) := by decide +kernel
theorem dX6_rest_7 : decode cX6_rest 7 = .ok (.ldc 67, 2) := by decide +kernel
theorem dX6_rest_9 : decode cX6_rest 9 = .ok (.ireturn, 1) := by decide +kernel
theorem dX6_rest_10 : decode cX6_rest 10 = .ok (.aload_n 0, 1) := by decide +kernel
theorem dX6_rest_11 : decode cX6_rest 11 = .ok (.getfield 47, 3) := by decide +kernel
theorem dX6_rest_14 : decode cX6_rest 14 = .ok (.iload_n 1, 1) := by decide +kernel
theorem dX6_rest_15 : decode cX6_rest 15 = .ok (.aaload, 1) := by decide +kernel
theorem dX6_rest_16 : decode cX6_rest 16 = .ok (.astore_n 3, 1) := by decide +kernel
theorem dX6_rest_17 : decode cX6_rest 17 = .ok (.aload_n 3, 1) := by decide +kernel
theorem dX6_rest_18 : decode cX6_rest 18 = .ok (.getfield 271, 3) := by decide +kernel
theorem dX6_rest_21 : decode cX6_rest 21 = .ok (.ifCond .ne 6, 3) := by decide +kernel
theorem dX6_rest_24 : decode cX6_rest 24 = .ok (.ldc 196, 2) := by decide +kernel
theorem dX6_rest_26 : decode cX6_rest 26 = .ok (.ireturn, 1) := by decide +kernel
theorem dX6_rest_27 : decode cX6_rest 27 = .ok (.aload_n 3, 1) := by decide +kernel
theorem dX6_rest_28 : decode cX6_rest 28 = .ok (.getfield 271, 3) := by decide +kernel
theorem dX6_rest_31 : decode cX6_rest 31 = .ok (.iconst 3, 1) := by decide +kernel
theorem dX6_rest_32 : decode cX6_rest 32 = .ok (.if_icmp .eq 6, 3) := by decide +kernel
theorem dX6_rest_35 : decode cX6_rest 35 = .ok (.ldc 106, 2) := by decide +kernel
theorem dX6_rest_37 : decode cX6_rest 37 = .ok (.ireturn, 1) := by decide +kernel
theorem dX6_rest_38 : decode cX6_rest 38 = .ok (.iload_n 2, 1) := by decide +kernel
theorem dX6_rest_39 : decode cX6_rest 39 = .ok (.ifCond .ne 9, 3) := by decide +kernel
theorem dX6_rest_42 : decode cX6_rest 42 = .ok (.ldc_w 286, 3) := by decide +kernel
theorem dX6_rest_45 : decode cX6_rest 45 = .ok (.goto 9, 3) := by decide +kernel
theorem dX6_rest_48 : decode cX6_rest 48 = .ok (.aload_n 3, 1) := by decide +kernel
theorem dX6_rest_49 : decode cX6_rest 49 = .ok (.getfield 283, 3) := by decide +kernel
theorem dX6_rest_52 : decode cX6_rest 52 = .ok (.iload_n 2, 1) := by decide +kernel
theorem dX6_rest_53 : decode cX6_rest 53 = .ok (.irem, 1) := by decide +kernel
theorem dX6_rest_54 : decode cX6_rest 54 = .ok (.ireturn, 1) := by decide +kernel
theorem dX6_tell_0 : decode cX6_tell 0 = .ok (.aload_n 0, 1) := by decide +kernel
theorem dX6_tell_1 : decode cX6_tell 1 = .ok (.getfield 287, 3) := by decide +kernel
theorem dX6_tell_4 : decode cX6_tell 4 = .ok (.bipush 60, 2) := by decide +kernel
theorem dX6_tell_6 : decode cX6_tell 6 = .ok (.if_icmp .lt 6, 3) := by decide +kernel
theorem dX6_tell_9 : decode cX6_tell 9 = .ok (.ldc 72, 2) := by decide +kernel
theorem dX6_tell_11 : decode cX6_tell 11 = .ok (.ireturn, 1) := by decide +kernel
theorem dX6_tell_12 : decode cX6_tell 12 = .ok (.aload_n 0, 1) := by decide +kernel
theorem dX6_tell_13 : decode cX6_tell 13 = .ok (.getfield 52, 3) := by decide +kernel
theorem dX6_tell_16 : decode cX6_tell 16 = .ok (.aload_n 0, 1) := by decide +kernel
theorem dX6_tell_17 : decode cX6_tell 17 = .ok (.getfield 287, 3) := by decide +kernel
theorem dX6_tell_20 : decode cX6_tell 20 = .ok (.iload_n 1, 1) := by decide +kernel
theorem dX6_tell_21 : decode cX6_tell 21 = .ok (.iastore, 1) := by decide +kernel
theorem dX6_tell_22 : decode cX6_tell 22 = .ok (.aload_n 0, 1) := by decide +kernel
theorem dX6_tell_23 : decode cX6_tell 23 = .ok (.dup, 1) := by decide +kernel
theorem dX6_tell_24 : decode cX6_tell 24 = .ok (.getfield 287, 3) := by decide +kernel
theorem dX6_tell_27 : decode cX6_tell 27 = .ok (.iconst 1, 1) := by decide +kernel
theorem dX6_tell_28 : decode cX6_tell 28 = .ok (.iadd, 1) := by decide +kernel
theorem dX6_tell_29 : decode cX6_tell 29 = .ok (.putfield 287, 3) := by decide +kernel
theorem dX6_tell_32 : decode cX6_tell 32 = .ok (.aload_n 0, 1) := by decide +kernel
theorem dX6_tell_33 : decode cX6_tell 33 = .ok (.getfield 287, 3) := by decide +kernel
theorem dX6_tell_36 : decode cX6_tell 36 = .ok (.ireturn, 1) := by decide +kernel
theorem dX6_check_0 : decode cX6_check 0 = .ok (.aload_n 0, 1) := by decide +kernel
theorem dX6_check_1 : decode cX6_check 1 = .ok (.getfield 287, 3) := by decide +kernel
theorem dX6_check_4 : decode cX6_check 4 = .ok (.istore_n 2, 1) := by decide +kernel
theorem dX6_check_5 : decode cX6_check 5 = .ok (.aload_n 0, 1) := by decide +kernel
theorem dX6_check_6 : decode cX6_check 6 = .ok (.iconst 0, 1) := by decide +kernel
theorem dX6_check_7 : decode cX6_check 7 = .ok (.putfield 287, 3) := by decide +kernel
theorem dX6_check_10 : decode cX6_check 10 = .ok (.iload_n 1, 1) := by decide +kernel
theorem dX6_check_11 : decode cX6_check 11 = .ok (.iconst 1, 1) := by decide +kernel
theorem dX6_check_12 : decode cX6_check 12 = .ok (.bipush 30, 2) := by decide +kernel
theorem dX6_check_14 : decode cX6_check 14 = .ok (.invokestatic 63, 3) := by decide +kernel
theorem dX6_check_17 : decode cX6_check 17 = .ok (.ifCond .eq 6, 3) := by decide +kernel
theorem dX6_check_20 : decode cX6_check 20 = .ok (.ldc 67, 2) := by decide +kernel
theorem dX6_check_22 : decode cX6_check 22 = .ok (.ireturn, 1) := by decide +kernel
theorem dX6_check_23 : decode cX6_check 23 = .ok (.aload_n 0, 1) := by decide +kernel
theorem dX6_check_24 : decode cX6_check 24 = .ok (.getfield 290, 3) := by decide +kernel
theorem dX6_check_27 : decode cX6_check 27 = .ok (.ifCond .ne 7, 3) := by decide +kernel
theorem dX6_check_30 : decode cX6_check 30 = .ok (.ldc_w 286, 3) := by decide +kernel
theorem dX6_check_33 : decode cX6_check 33 = .ok (.ireturn, 1) := by decide +kernel
theorem dX6_check_34 : decode cX6_check 34 = .ok (.iconst 2, 1) := by decide +kernel
theorem dX6_check_35 : decode cX6_check 35 = .ok (.iload_n 1, 1) := by decide +kernel
theorem dX6_check_36 : decode cX6_check 36 = .ok (.sipush 9999, 3) := by decide +kernel
theorem dX6_check_39 : decode cX6_check 39 = .ok (.aload_n 0, 1) := by decide +kernel
theorem dX6_check_40 : decode cX6_check 40 = .ok (.getfield 32, 3) := by decide +kernel
theorem dX6_check_43 : decode cX6_check 43 = .ok (.getfield 157, 3) := by decide +kernel
theorem dX6_check_46 : decode cX6_check 46 = .ok (.isub, 1) := by decide +kernel
theorem dX6_check_47 : decode cX6_check 47 = .ok (.invokestatic 143, 3) := by decide +kernel
theorem dX6_check_50 : decode cX6_check 50 = .ok (.imul, 1) := by decide +kernel
theorem dX6_check_51 : decode cX6_check 51 = .ok (.istore_n 3, 1) := by decide +kernel
theorem dX6_check_52 : decode cX6_check 52 = .ok (.aload_n 0, 1) := by decide +kernel
theorem dX6_check_53 : decode cX6_check 53 = .ok (.getfield 35, 3) := by decide +kernel
theorem dX6_check_56 : decode cX6_check 56 = .ok (.aload_n 0, 1) := by decide +kernel
theorem dX6_check_57 : decode cX6_check 57 = .ok (.getfield 32, 3) := by decide +kernel
theorem dX6_check_60 : decode cX6_check 60 = .ok (.invokevirtual 177, 3) := by decide +kernel
theorem dX6_check_63 : decode cX6_check 63 = .ok (.iconst 0, 1) := by decide +kernel
theorem dX6_check_64 : decode cX6_check 64 = .ok (.istore 4, 2) := by decide +kernel
theorem dX6_check_66 : decode cX6_check 66 = .ok (.iload 4, 2) := by decide +kernel
theorem dX6_check_68 : decode cX6_check 68 = .ok (.iload_n 2, 1) := by decide +kernel
theorem dX6_check_69 : decode cX6_check 69 = .ok (.if_icmp .ge 73, 3) := by decide +kernel
theorem dX6_check_72 : decode cX6_check 72 = .ok (.iload 4, 2) := by decide +kernel
theorem dX6_check_74 : decode cX6_check 74 = .ok (.iload_n 3, 1) := by decide +kernel
theorem dX6_check_75 : decode cX6_check 75 = .ok (.if_icmp .ge 67, 3) := by decide +kernel
theorem dX6_check_78 : decode cX6_check 78 = .ok (.iload 4, 2) := by decide +kernel
theorem dX6_check_80 : decode cX6_check 80 = .ok (.iconst 2, 1) := by decide +kernel
theorem dX6_check_81 : decode cX6_check 81 = .ok (.irem, 1) := by decide +kernel
theorem dX6_check_82 : decode cX6_check 82 = .ok (.ifCond .ne 11, 3) := by decide +kernel
theorem dX6_check_85 : decode cX6_check 85 = .ok (.aload_n 0, 1) := by decide +kernel
theorem dX6_check_86 : decode cX6_check 86 = .ok (.getfield 35, 3) := by decide +kernel
theorem dX6_check_89 : decode cX6_check 89 = .ok (.iconst 1, 1) := by decide +kernel
theorem dX6_check_90 : decode cX6_check 90 = .ok (.invokevirtual 160, 3) := by decide +kernel
theorem dX6_check_93 : decode cX6_check 93 = .ok (.iload 4, 2) := by decide +kernel
theorem dX6_check_95 : decode cX6_check 95 = .ok (.iconst 2, 1) := by decide +kernel
theorem dX6_check_96 : decode cX6_check 96 = .ok (.irem, 1) := by decide +kernel
theorem dX6_check_97 : decode cX6_check 97 = .ok (.ifCond .ne 13, 3) := by decide +kernel
theorem dX6_check_100 : decode cX6_check 100 = .ok (.aload_n 0, 1) := by decide +kernel
theorem dX6_check_101 : decode cX6_check 101 = .ok (.getfield 35, 3) := by decide +kernel
theorem dX6_check_104 : decode cX6_check 104 = .ok (.getfield 154, 3) := by decide +kernel
theorem dX6_check_107 : decode cX6_check 107 = .ok (.goto 10, 3) := by decide +kernel
theorem dX6_check_110 : decode cX6_check 110 = .ok (.aload_n 0, 1) := by decide +kernel
theorem dX6_check_111 : decode cX6_check 111 = .ok (.getfield 35, 3) := by decide +kernel
theorem dX6_check_114 : decode cX6_check 114 = .ok (.getfield 167, 3) := by decide +kernel
theorem dX6_check_117 : decode cX6_check 117 = .ok (.istore 5, 2) := by decide +kernel
theorem dX6_check_119 : decode cX6_check 119 = .ok (.aload_n 0, 1) := by decide +kernel
theorem dX6_check_120 : decode cX6_check 120 = .ok (.getfield 52, 3) := by decide +kernel
theorem dX6_check_123 : decode cX6_check 123 = .ok (.iload 4, 2) := by decide +kernel
theorem dX6_check_125 : decode cX6_check 125 = .ok (.iaload, 1) := by decide +kernel
theorem dX6_check_126 : decode cX6_check 126 = .ok (.iload 5, 2) := by decide +kernel
theorem dX6_check_128 : decode cX6_check 128 = .ok (.if_icmp .eq 8, 3) := by decide +kernel
theorem dX6_check_131 : decode cX6_check 131 = .ok (.iconst 1, 1) := by decide +kernel
theorem dX6_check_132 : decode cX6_check 132 = .ok (.iload 4, 2) := by decide +kernel
theorem dX6_check_134 : decode cX6_check 134 = .ok (.iadd, 1) := by decide +kernel
theorem dX6_check_135 : decode cX6_check 135 = .ok (.ireturn, 1) := by decide +kernel
theorem dX6_check_136 : decode cX6_check 136 = .ok (.iinc 4 1, 3) := by decide +kernel
theorem dX6_check_139 : decode cX6_check 139 = .ok (.goto (-73), 3) := by decide +kernel
theorem dX6_check_142 : decode cX6_check 142 = .ok (.iload_n 2, 1) := by decide +kernel
theorem dX6_check_143 : decode cX6_check 143 = .ok (.iload_n 3, 1) := by decide +kernel
theorem dX6_check_144 : decode cX6_check 144 = .ok (.if_icmp .ne 7, 3) := by decide +kernel
theorem dX6_check_147 : decode cX6_check 147 = .ok (.iconst 0, 1) := by decide +kernel
theorem dX6_check_148 : decode cX6_check 148 = .ok (.goto 10, 3) := by decide +kernel
theorem dX6_check_151 : decode cX6_check 151 = .ok (.iconst 1, 1) := by decide +kernel
theorem dX6_check_152 : decode cX6_check 152 = .ok (.iload_n 2, 1) := by decide +kernel
theorem dX6_check_153 : decode cX6_check 153 = .ok (.iload_n 3, 1) := by decide +kernel
theorem dX6_check_154 : decode cX6_check 154 = .ok (.invokestatic 143, 3) := by decide +kernel
theorem dX6_check_157 : decode cX6_check 157 = .ok (.iadd, 1) := by decide +kernel
theorem dX6_check_158 : decode cX6_check 158 = .ok (.ireturn, 1) := by decide +kernel
theorem dX6_keep_0 : decode cX6_keep 0 = .ok (.aload_n 0, 1) := by decide +kernel
theorem dX6_keep_1 : decode cX6_keep 1 = .ok (.getfield 32, 3) := by decide +kernel
theorem dX6_keep_4 : decode cX6_keep 4 = .ok (.aload_n 0, 1) := by decide +kernel
theorem dX6_keep_5 : decode cX6_keep 5 = .ok (.getfield 28, 3) := by decide +kernel
theorem dX6_keep_8 : decode cX6_keep 8 = .ok (.invokevirtual 177, 3) := by decide +kernel
theorem dX6_keep_11 : decode cX6_keep 11 = .ok (.aload_n 0, 1) := by decide +kernel
theorem dX6_keep_12 : decode cX6_keep 12 = .ok (.iconst 1, 1) := by decide +kernel
theorem dX6_keep_13 : decode cX6_keep 13 = .ok (.putfield 290, 3) := by decide +kernel
theorem dX6_keep_16 : decode cX6_keep 16 = .ok (.aload_n 0, 1) := by decide +kernel
theorem dX6_keep_17 : decode cX6_keep 17 = .ok (.getfield 28, 3) := by decide +kernel
theorem dX6_keep_20 : decode cX6_keep 20 = .ok (.getfield 68, 3) := by decide +kernel
theorem dX6_keep_23 : decode cX6_keep 23 = .ok (.ireturn, 1) := by decide +kernel
theorem dX6_back_0 : decode cX6_back 0 = .ok (.aload_n 0, 1) := by decide +kernel
theorem dX6_back_1 : decode cX6_back 1 = .ok (.getfield 290, 3) := by decide +kernel
theorem dX6_back_4 : decode cX6_back 4 = .ok (.ifCond .ne 7, 3) := by decide +kernel
theorem dX6_back_7 : decode cX6_back 7 = .ok (.ldc_w 286, 3) := by decide +kernel
theorem dX6_back_10 : decode cX6_back 10 = .ok (.ireturn, 1) := by decide +kernel
theorem dX6_back_11 : decode cX6_back 11 = .ok (.aload_n 0, 1) := by decide +kernel
theorem dX6_back_12 : decode cX6_back 12 = .ok (.getfield 28, 3) := by decide +kernel
theorem dX6_back_15 : decode cX6_back 15 = .ok (.aload_n 0, 1) := by decide +kernel
theorem dX6_back_16 : decode cX6_back 16 = .ok (.getfield 32, 3) := by decide +kernel
theorem dX6_back_19 : decode cX6_back 19 = .ok (.invokevirtual 177, 3) := by decide +kernel
theorem dX6_back_22 : decode cX6_back 22 = .ok (.aload_n 0, 1) := by decide +kernel
theorem dX6_back_23 : decode cX6_back 23 = .ok (.getfield 28, 3) := by decide +kernel
theorem dX6_back_26 : decode cX6_back 26 = .ok (.getfield 68, 3) := by decide +kernel
theorem dX6_back_29 : decode cX6_back 29 = .ok (.ireturn, 1) := by decide +kernel
theorem dX6_count_0 : decode cX6_count 0 = .ok (.iload_n 1, 1) := by decide +kernel
theorem dX6_count_1 : decode cX6_count 1 = .ok (.tableswitch 120 0 8 #[51, 59, 67, 75, 83, 91, 99, 104, 112], 51) := by decide +kernel
theorem dX6_count_52 : decode cX6_count 52 = .ok (.aload_n 0, 1) := by decide +kernel
theorem dX6_count_53 : decode cX6_count 53 = .ok (.getfield 28, 3) := by decide +kernel
theorem dX6_count_56 : decode cX6_count 56 = .ok (.getfield 68, 3) := by decide +kernel
theorem dX6_count_59 : decode cX6_count 59 = .ok (.ireturn, 1) := by decide +kernel
theorem dX6_count_60 : decode cX6_count 60 = .ok (.aload_n 0, 1) := by decide +kernel
theorem dX6_count_61 : decode cX6_count 61 = .ok (.getfield 28, 3) := by decide +kernel
theorem dX6_count_64 : decode cX6_count 64 = .ok (.getfield 157, 3) := by decide +kernel
theorem dX6_count_67 : decode cX6_count 67 = .ok (.ireturn, 1) := by decide +kernel
theorem dX6_count_68 : decode cX6_count 68 = .ok (.aload_n 0, 1) := by decide +kernel
theorem dX6_count_69 : decode cX6_count 69 = .ok (.getfield 28, 3) := by decide +kernel
theorem dX6_count_72 : decode cX6_count 72 = .ok (.getfield 154, 3) := by decide +kernel
theorem dX6_count_75 : decode cX6_count 75 = .ok (.ireturn, 1) := by decide +kernel
theorem dX6_count_76 : decode cX6_count 76 = .ok (.aload_n 0, 1) := by decide +kernel
theorem dX6_count_77 : decode cX6_count 77 = .ok (.getfield 28, 3) := by decide +kernel
theorem dX6_count_80 : decode cX6_count 80 = .ok (.getfield 164, 3) := by decide +kernel
theorem dX6_count_83 : decode cX6_count 83 = .ok (.ireturn, 1) := by decide +kernel
theorem dX6_count_84 : decode cX6_count 84 = .ok (.aload_n 0, 1) := by decide +kernel
theorem dX6_count_85 : decode cX6_count 85 = .ok (.getfield 28, 3) := by decide +kernel
theorem dX6_count_88 : decode cX6_count 88 = .ok (.getfield 167, 3) := by decide +kernel
theorem dX6_count_91 : decode cX6_count 91 = .ok (.ireturn, 1) := by decide +kernel
theorem dX6_count_92 : decode cX6_count 92 = .ok (.aload_n 0, 1) := by decide +kernel
theorem dX6_count_93 : decode cX6_count 93 = .ok (.getfield 28, 3) := by decide +kernel
theorem dX6_count_96 : decode cX6_count 96 = .ok (.getfield 227, 3) := by decide +kernel
theorem dX6_count_99 : decode cX6_count 99 = .ok (.ireturn, 1) := by decide +kernel
theorem dX6_count_100 : decode cX6_count 100 = .ok (.aload_n 0, 1) := by decide +kernel
theorem dX6_count_101 : decode cX6_count 101 = .ok (.getfield 287, 3) := by decide +kernel
theorem dX6_count_104 : decode cX6_count 104 = .ok (.ireturn, 1) := by decide +kernel
theorem dX6_count_105 : decode cX6_count 105 = .ok (.aload_n 0, 1) := by decide +kernel
theorem dX6_count_106 : decode cX6_count 106 = .ok (.getfield 19, 3) := by decide +kernel
theorem dX6_count_109 : decode cX6_count 109 = .ok (.getfield 218, 3) := by decide +kernel
theorem dX6_count_112 : decode cX6_count 112 = .ok (.ireturn, 1) := by decide +kernel
theorem dX6_count_113 : decode cX6_count 113 = .ok (.aload_n 0, 1) := by decide +kernel
theorem dX6_count_114 : decode cX6_count 114 = .ok (.getfield 28, 3) := by decide +kernel
theorem dX6_count_117 : decode cX6_count 117 = .ok (.getfield 151, 3) := by decide +kernel
theorem dX6_count_120 : decode cX6_count 120 = .ok (.ireturn, 1) := by decide +kernel
theorem dX6_count_121 : decode cX6_count 121 = .ok (.ldc 67, 2) := by decide +kernel
theorem dX6_count_123 : decode cX6_count 123 = .ok (.ireturn, 1) := by decide +kernel
theorem dX6_outside_0 : decode cX6_outside 0 = .ok (.iload_n 0, 1) := by decide +kernel
theorem dX6_outside_1 : decode cX6_outside 1 = .ok (.iload_n 1, 1) := by decide +kernel
theorem dX6_outside_2 : decode cX6_outside 2 = .ok (.if_icmp .lt 8, 3) := by decide +kernel
theorem dX6_outside_5 : decode cX6_outside 5 = .ok (.iload_n 0, 1) := by decide +kernel
theorem dX6_outside_6 : decode cX6_outside 6 = .ok (.iload_n 2, 1) := by decide +kernel
theorem dX6_outside_7 : decode cX6_outside 7 = .ok (.if_icmp .le 7, 3) := by decide +kernel
theorem dX6_outside_10 : decode cX6_outside 10 = .ok (.iconst 1, 1) := by decide +kernel
theorem dX6_outside_11 : decode cX6_outside 11 = .ok (.goto 4, 3) := by decide +kernel
theorem dX6_outside_14 : decode cX6_outside 14 = .ok (.iconst 0, 1) := by decide +kernel
theorem dX6_outside_15 : decode cX6_outside 15 = .ok (.ireturn, 1) := by decide +kernel
theorem dX6_within_0 : decode cX6_within 0 = .ok (.iload_n 1, 1) := by decide +kernel
theorem dX6_within_1 : decode cX6_within 1 = .ok (.iload_n 2, 1) := by decide +kernel
theorem dX6_within_2 : decode cX6_within 2 = .ok (.iload_n 0, 1) := by decide +kernel
theorem dX6_within_3 : decode cX6_within 3 = .ok (.invokestatic 143, 3) := by decide +kernel
theorem dX6_within_6 : decode cX6_within 6 = .ok (.invokestatic 294, 3) := by decide +kernel
theorem dX6_within_9 : decode cX6_within 9 = .ok (.ireturn, 1) := by decide +kernel
theorem dX6_noKind_0 : decode cX6_noKind 0 = .ok (.iload_n 0, 1) := by decide +kernel
theorem dX6_noKind_1 : decode cX6_noKind 1 = .ok (.iconst 0, 1) := by decide +kernel
theorem dX6_noKind_2 : decode cX6_noKind 2 = .ok (.iconst 5, 1) := by decide +kernel
theorem dX6_noKind_3 : decode cX6_noKind 3 = .ok (.invokestatic 63, 3) := by decide +kernel
theorem dX6_noKind_6 : decode cX6_noKind 6 = .ok (.ireturn, 1) := by decide +kernel
theorem dX6_noField_0 : decode cX6_noField 0 = .ok (.iload_n 0, 1) := by decide +kernel
theorem dX6_noField_1 : decode cX6_noField 1 = .ok (.iconst 0, 1) := by decide +kernel
theorem dX6_noField_2 : decode cX6_noField 2 = .ok (.iconst 5, 1) := by decide +kernel
theorem dX6_noField_3 : decode cX6_noField 3 = .ok (.invokestatic 63, 3) := by decide +kernel
theorem dX6_noField_6 : decode cX6_noField 6 = .ok (.ireturn, 1) := by decide +kernel
theorem dX6_noSheet_0 : decode cX6_noSheet 0 = .ok (.iload_n 0, 1) := by decide +kernel
theorem dX6_noSheet_1 : decode cX6_noSheet 1 = .ok (.iconst 0, 1) := by decide +kernel
theorem dX6_noSheet_2 : decode cX6_noSheet 2 = .ok (.iconst 3, 1) := by decide +kernel
theorem dX6_noSheet_3 : decode cX6_noSheet 3 = .ok (.invokestatic 63, 3) := by decide +kernel
theorem dX6_noSheet_6 : decode cX6_noSheet 6 = .ok (.ireturn, 1) := by decide +kernel
theorem dX6_noSlot_0 : decode cX6_noSlot 0 = .ok (.iload_n 0, 1) := by decide +kernel
theorem dX6_noSlot_1 : decode cX6_noSlot 1 = .ok (.iconst 0, 1) := by decide +kernel
theorem dX6_noSlot_2 : decode cX6_noSlot 2 = .ok (.iconst 4, 1) := by decide +kernel
theorem dX6_noSlot_3 : decode cX6_noSlot 3 = .ok (.invokestatic 63, 3) := by decide +kernel
theorem dX6_noSlot_6 : decode cX6_noSlot 6 = .ok (.ireturn, 1) := by decide +kernel
theorem dX6_noPerson_0 : decode cX6_noPerson 0 = .ok (.iload_n 1, 1) := by decide +kernel
theorem dX6_noPerson_1 : decode cX6_noPerson 1 = .ok (.iconst 0, 1) := by decide +kernel
theorem dX6_noPerson_2 : decode cX6_noPerson 2 = .ok (.aload_n 0, 1) := by decide +kernel
theorem dX6_noPerson_3 : decode cX6_noPerson 3 = .ok (.getfield 28, 3) := by decide +kernel
theorem dX6_noPerson_6 : decode cX6_noPerson 6 = .ok (.getfield 68, 3) := by decide +kernel
theorem dX6_noPerson_9 : decode cX6_noPerson 9 = .ok (.iconst 1, 1) := by decide +kernel
theorem dX6_noPerson_10 : decode cX6_noPerson 10 = .ok (.isub, 1) := by decide +kernel
theorem dX6_noPerson_11 : decode cX6_noPerson 11 = .ok (.invokestatic 63, 3) := by decide +kernel
theorem dX6_noPerson_14 : decode cX6_noPerson 14 = .ok (.ireturn, 1) := by decide +kernel
theorem dX6_isOf_0 : decode cX6_isOf 0 = .ok (.iload_n 0, 1) := by decide +kernel
theorem dX6_isOf_1 : decode cX6_isOf 1 = .ok (.istore_n 2, 1) := by decide +kernel
theorem dX6_isOf_2 : decode cX6_isOf 2 = .ok (.iconst 0, 1) := by decide +kernel
theorem dX6_isOf_3 : decode cX6_isOf 3 = .ok (.istore_n 3, 1) := by decide +kernel
theorem dX6_isOf_4 : decode cX6_isOf 4 = .ok (.iload_n 3, 1) := by decide +kernel
theorem dX6_isOf_5 : decode cX6_isOf 5 = .ok (.bipush 6, 2) := by decide +kernel
theorem dX6_isOf_7 : decode cX6_isOf 7 = .ok (.if_icmp .ge 26, 3) := by decide +kernel
theorem dX6_isOf_10 : decode cX6_isOf 10 = .ok (.iload_n 2, 1) := by decide +kernel
theorem dX6_isOf_11 : decode cX6_isOf 11 = .ok (.ifCond .lt 22, 3) := by decide +kernel
theorem dX6_isOf_14 : decode cX6_isOf 14 = .ok (.iload_n 2, 1) := by decide +kernel
theorem dX6_isOf_15 : decode cX6_isOf 15 = .ok (.iload_n 1, 1) := by decide +kernel
theorem dX6_isOf_16 : decode cX6_isOf 16 = .ok (.if_icmp .ne 5, 3) := by decide +kernel
theorem dX6_isOf_19 : decode cX6_isOf 19 = .ok (.iconst 1, 1) := by decide +kernel
theorem dX6_isOf_20 : decode cX6_isOf 20 = .ok (.ireturn, 1) := by decide +kernel
theorem dX6_isOf_21 : decode cX6_isOf 21 = .ok (.getstatic 297, 3) := by decide +kernel
theorem dX6_isOf_24 : decode cX6_isOf 24 = .ok (.iload_n 2, 1) := by decide +kernel
theorem dX6_isOf_25 : decode cX6_isOf 25 = .ok (.iaload, 1) := by decide +kernel
theorem dX6_isOf_26 : decode cX6_isOf 26 = .ok (.istore_n 2, 1) := by decide +kernel
theorem dX6_isOf_27 : decode cX6_isOf 27 = .ok (.iinc 3 1, 3) := by decide +kernel
theorem dX6_isOf_30 : decode cX6_isOf 30 = .ok (.goto (-26), 3) := by decide +kernel
theorem dX6_isOf_33 : decode cX6_isOf 33 = .ok (.iconst 0, 1) := by decide +kernel
theorem dX6_isOf_34 : decode cX6_isOf 34 = .ok (.ireturn, 1) := by decide +kernel
theorem dX6_replaced_0 : decode cX6_replaced 0 = .ok (.iload_n 2, 1) := by decide +kernel
theorem dX6_replaced_1 : decode cX6_replaced 1 = .ok (.iconst 0, 1) := by decide +kernel
theorem dX6_replaced_2 : decode cX6_replaced 2 = .ok (.iload_n 3, 1) := by decide +kernel
theorem dX6_replaced_3 : decode cX6_replaced 3 = .ok (.invokestatic 63, 3) := by decide +kernel
theorem dX6_replaced_6 : decode cX6_replaced 6 = .ok (.ifCond .eq 6, 3) := by decide +kernel
theorem dX6_replaced_9 : decode cX6_replaced 9 = .ok (.ldc 67, 2) := by decide +kernel
theorem dX6_replaced_11 : decode cX6_replaced 11 = .ok (.ireturn, 1) := by decide +kernel
theorem dX6_replaced_12 : decode cX6_replaced 12 = .ok (.aload_n 0, 1) := by decide +kernel
theorem dX6_replaced_13 : decode cX6_replaced 13 = .ok (.iload_n 1, 1) := by decide +kernel
theorem dX6_replaced_14 : decode cX6_replaced 14 = .ok (.iaload, 1) := by decide +kernel
theorem dX6_replaced_15 : decode cX6_replaced 15 = .ok (.istore 4, 2) := by decide +kernel
theorem dX6_replaced_17 : decode cX6_replaced 17 = .ok (.aload_n 0, 1) := by decide +kernel
theorem dX6_replaced_18 : decode cX6_replaced 18 = .ok (.iload_n 1, 1) := by decide +kernel
theorem dX6_replaced_19 : decode cX6_replaced 19 = .ok (.iload_n 2, 1) := by decide +kernel
theorem dX6_replaced_20 : decode cX6_replaced 20 = .ok (.iastore, 1) := by decide +kernel
theorem dX6_replaced_21 : decode cX6_replaced 21 = .ok (.iload 4, 2) := by decide +kernel
theorem dX6_replaced_23 : decode cX6_replaced 23 = .ok (.ireturn, 1) := by decide +kernel
theorem dX6_tryTelling_0 : decode cX6_tryTelling 0 = .ok (.aload_n 0, 1) := by decide +kernel
theorem dX6_tryTelling_1 : decode cX6_tryTelling 1 = .ok (.getfield 35, 3) := by decide +kernel
theorem dX6_tryTelling_4 : decode cX6_tryTelling 4 = .ok (.aload_n 0, 1) := by decide +kernel
theorem dX6_tryTelling_5 : decode cX6_tryTelling 5 = .ok (.getfield 28, 3) := by decide +kernel
theorem dX6_tryTelling_8 : decode cX6_tryTelling 8 = .ok (.invokevirtual 177, 3) := by decide +kernel
theorem dX6_tryTelling_11 : decode cX6_tryTelling 11 = .ok (.iconst 0, 1) := by decide +kernel
theorem dX6_tryTelling_12 : decode cX6_tryTelling 12 = .ok (.istore 4, 2) := by decide +kernel
theorem dX6_tryTelling_14 : decode cX6_tryTelling 14 = .ok (.iload 4, 2) := by decide +kernel
theorem dX6_tryTelling_16 : decode cX6_tryTelling 16 = .ok (.aload_n 0, 1) := by decide +kernel
theorem dX6_tryTelling_17 : decode cX6_tryTelling 17 = .ok (.getfield 28, 3) := by decide +kernel
theorem dX6_tryTelling_20 : decode cX6_tryTelling 20 = .ok (.getfield 68, 3) := by decide +kernel
theorem dX6_tryTelling_23 : decode cX6_tryTelling 23 = .ok (.if_icmp .ge 42, 3) := by decide +kernel
theorem dX6_tryTelling_26 : decode cX6_tryTelling 26 = .ok (.iload_n 1, 1) := by decide +kernel
theorem dX6_tryTelling_27 : decode cX6_tryTelling 27 = .ok (.iload 4, 2) := by decide +kernel
theorem dX6_tryTelling_29 : decode cX6_tryTelling 29 = .ok (.ishr, 1) := by decide +kernel
theorem dX6_tryTelling_30 : decode cX6_tryTelling 30 = .ok (.iconst 1, 1) := by decide +kernel
theorem dX6_tryTelling_31 : decode cX6_tryTelling 31 = .ok (.iand, 1) := by decide +kernel
theorem dX6_tryTelling_32 : decode cX6_tryTelling 32 = .ok (.iconst 1, 1) := by decide +kernel
theorem dX6_tryTelling_33 : decode cX6_tryTelling 33 = .ok (.if_icmp .ne 26, 3) := by decide +kernel
theorem dX6_tryTelling_36 : decode cX6_tryTelling 36 = .ok (.aload_n 0, 1) := by decide +kernel
theorem dX6_tryTelling_37 : decode cX6_tryTelling 37 = .ok (.getfield 35, 3) := by decide +kernel
theorem dX6_tryTelling_40 : decode cX6_tryTelling 40 = .ok (.iload 4, 2) := by decide +kernel
theorem dX6_tryTelling_42 : decode cX6_tryTelling 42 = .ok (.iload_n 2, 1) := by decide +kernel
theorem dX6_tryTelling_43 : decode cX6_tryTelling 43 = .ok (.iload_n 3, 1) := by decide +kernel
theorem dX6_tryTelling_44 : decode cX6_tryTelling 44 = .ok (.invokevirtual 118, 3) := by decide +kernel
theorem dX6_tryTelling_47 : decode cX6_tryTelling 47 = .ok (.aload_n 0, 1) := by decide +kernel
theorem dX6_tryTelling_48 : decode cX6_tryTelling 48 = .ok (.getfield 35, 3) := by decide +kernel
theorem dX6_tryTelling_51 : decode cX6_tryTelling 51 = .ok (.getfield 89, 3) := by decide +kernel
theorem dX6_tryTelling_54 : decode cX6_tryTelling 54 = .ok (.iload 4, 2) := by decide +kernel
theorem dX6_tryTelling_56 : decode cX6_tryTelling 56 = .ok (.bipush 99, 2) := by decide +kernel
theorem dX6_tryTelling_58 : decode cX6_tryTelling 58 = .ok (.iastore, 1) := by decide +kernel
theorem dX6_tryTelling_59 : decode cX6_tryTelling 59 = .ok (.iinc 4 1, 3) := by decide +kernel
theorem dX6_tryTelling_62 : decode cX6_tryTelling 62 = .ok (.goto (-48), 3) := by decide +kernel
theorem dX6_tryTelling_65 : decode cX6_tryTelling 65 = .ok (.return_, 1) := by decide +kernel
theorem dX6_addDifferences_0 : decode cX6_addDifferences 0 = .ok (.iconst 0, 1) := by decide +kernel
theorem dX6_addDifferences_1 : decode cX6_addDifferences 1 = .ok (.istore_n 2, 1) := by decide +kernel
theorem dX6_addDifferences_2 : decode cX6_addDifferences 2 = .ok (.iload_n 2, 1) := by decide +kernel
theorem dX6_addDifferences_3 : decode cX6_addDifferences 3 = .ok (.bipush 6, 2) := by decide +kernel
theorem dX6_addDifferences_5 : decode cX6_addDifferences 5 = .ok (.if_icmp .ge 31, 3) := by decide +kernel
theorem dX6_addDifferences_8 : decode cX6_addDifferences 8 = .ok (.aload_n 0, 1) := by decide +kernel
theorem dX6_addDifferences_9 : decode cX6_addDifferences 9 = .ok (.getfield 56, 3) := by decide +kernel
theorem dX6_addDifferences_12 : decode cX6_addDifferences 12 = .ok (.iload_n 2, 1) := by decide +kernel
theorem dX6_addDifferences_13 : decode cX6_addDifferences 13 = .ok (.dup2, 1) := by decide +kernel
theorem dX6_addDifferences_14 : decode cX6_addDifferences 14 = .ok (.iaload, 1) := by decide +kernel
theorem dX6_addDifferences_15 : decode cX6_addDifferences 15 = .ok (.aload_n 0, 1) := by decide +kernel
theorem dX6_addDifferences_16 : decode cX6_addDifferences 16 = .ok (.getfield 35, 3) := by decide +kernel
theorem dX6_addDifferences_19 : decode cX6_addDifferences 19 = .ok (.iload_n 2, 1) := by decide +kernel
theorem dX6_addDifferences_20 : decode cX6_addDifferences 20 = .ok (.invokevirtual 131, 3) := by decide +kernel
theorem dX6_addDifferences_23 : decode cX6_addDifferences 23 = .ok (.iload_n 1, 1) := by decide +kernel
theorem dX6_addDifferences_24 : decode cX6_addDifferences 24 = .ok (.isub, 1) := by decide +kernel
theorem dX6_addDifferences_25 : decode cX6_addDifferences 25 = .ok (.invokestatic 300, 3) := by decide +kernel
theorem dX6_addDifferences_28 : decode cX6_addDifferences 28 = .ok (.iadd, 1) := by decide +kernel
theorem dX6_addDifferences_29 : decode cX6_addDifferences 29 = .ok (.iastore, 1) := by decide +kernel
theorem dX6_addDifferences_30 : decode cX6_addDifferences 30 = .ok (.iinc 2 1, 3) := by decide +kernel
theorem dX6_addDifferences_33 : decode cX6_addDifferences 33 = .ok (.goto (-31), 3) := by decide +kernel
theorem dX6_addDifferences_36 : decode cX6_addDifferences 36 = .ok (.return_, 1) := by decide +kernel
theorem dX7_init_0 : decode cX7_init 0 = .ok (.aload_n 0, 1) := by decide +kernel
theorem dX7_init_1 : decode cX7_init 1 = .ok (.invokespecial 1, 3) := by decide +kernel
theorem dX7_init_4 : decode cX7_init 4 = .ok (.aload_n 0, 1) := by decide +kernel
theorem dX7_init_5 : decode cX7_init 5 = .ok (.sipush 1471, 3) := by decide +kernel
theorem dX7_init_8 : decode cX7_init 8 = .ok (.newarray .int, 2) := by decide +kernel
theorem dX7_init_10 : decode cX7_init 10 = .ok (.putfield 9, 3) := by decide +kernel
theorem dX7_init_13 : decode cX7_init 13 = .ok (.aload_n 0, 1) := by decide +kernel
theorem dX7_init_14 : decode cX7_init 14 = .ok (.sipush 1471, 3) := by decide +kernel
theorem dX7_init_17 : decode cX7_init 17 = .ok (.newarray .int, 2) := by decide +kernel
theorem dX7_init_19 : decode cX7_init 19 = .ok (.putfield 13, 3) := by decide +kernel
theorem dX7_init_22 : decode cX7_init 22 = .ok (.aload_n 0, 1) := by decide +kernel
theorem dX7_init_23 : decode cX7_init 23 = .ok (.sipush 1471, 3) := by decide +kernel
theorem dX7_init_26 : decode cX7_init 26 = .ok (.newarray .int, 2) := by decide +kernel
theorem dX7_init_28 : decode cX7_init 28 = .ok (.putfield 16, 3) := by decide +kernel
theorem dX7_init_31 : decode cX7_init 31 = .ok (.aload_n 0, 1) := by decide +kernel
theorem dX7_init_32 : decode cX7_init 32 = .ok (.bipush 6, 2) := by decide +kernel
theorem dX7_init_34 : decode cX7_init 34 = .ok (.newarray .int, 2) := by decide +kernel
theorem dX7_init_36 : decode cX7_init 36 = .ok (.putfield 19, 3) := by decide +kernel
theorem dX7_init_39 : decode cX7_init 39 = .ok (.aload_n 0, 1) := by decide +kernel
theorem dX7_init_40 : decode cX7_init 40 = .ok (.bipush 96, 2) := by decide +kernel
theorem dX7_init_42 : decode cX7_init 42 = .ok (.newarray .int, 2) := by decide +kernel
theorem dX7_init_44 : decode cX7_init 44 = .ok (.putfield 22, 3) := by decide +kernel
theorem dX7_init_47 : decode cX7_init 47 = .ok (.aload_n 0, 1) := by decide +kernel
theorem dX7_init_48 : decode cX7_init 48 = .ok (.bipush 11, 2) := by decide +kernel
theorem dX7_init_50 : decode cX7_init 50 = .ok (.newarray .char, 2) := by decide +kernel
theorem dX7_init_52 : decode cX7_init 52 = .ok (.dup, 1) := by decide +kernel
theorem dX7_init_53 : decode cX7_init 53 = .ok (.iconst 0, 1) := by decide +kernel
theorem dX7_init_54 : decode cX7_init 54 = .ok (.bipush 119, 2) := by decide +kernel
theorem dX7_init_56 : decode cX7_init 56 = .ok (.castore, 1) := by decide +kernel
theorem dX7_init_57 : decode cX7_init 57 = .ok (.dup, 1) := by decide +kernel
theorem dX7_init_58 : decode cX7_init 58 = .ok (.iconst 1, 1) := by decide +kernel
theorem dX7_init_59 : decode cX7_init 59 = .ok (.bipush 97, 2) := by decide +kernel
theorem dX7_init_61 : decode cX7_init 61 = .ok (.castore, 1) := by decide +kernel
theorem dX7_init_62 : decode cX7_init 62 = .ok (.dup, 1) := by decide +kernel
theorem dX7_init_63 : decode cX7_init 63 = .ok (.iconst 2, 1) := by decide +kernel
theorem dX7_init_64 : decode cX7_init 64 = .ok (.bipush 110, 2) := by decide +kernel
theorem dX7_init_66 : decode cX7_init 66 = .ok (.castore, 1) := by decide +kernel
theorem dX7_init_67 : decode cX7_init 67 = .ok (.dup, 1) := by decide +kernel
theorem dX7_init_68 : decode cX7_init 68 = .ok (.iconst 3, 1) := by decide +kernel
theorem dX7_init_69 : decode cX7_init 69 = .ok (.bipush 116, 2) := by decide +kernel
theorem dX7_init_71 : decode cX7_init 71 = .ok (.castore, 1) := by decide +kernel
theorem dX7_init_72 : decode cX7_init 72 = .ok (.dup, 1) := by decide +kernel
theorem dX7_init_73 : decode cX7_init 73 = .ok (.iconst 4, 1) := by decide +kernel
theorem dX7_init_74 : decode cX7_init 74 = .ok (.bipush 102, 2) := by decide +kernel
theorem dX7_init_76 : decode cX7_init 76 = .ok (.castore, 1) := by decide +kernel
theorem dX7_init_77 : decode cX7_init 77 = .ok (.dup, 1) := by decide +kernel
theorem dX7_init_78 : decode cX7_init 78 = .ok (.iconst 5, 1) := by decide +kernel
theorem dX7_init_79 : decode cX7_init 79 = .ok (.bipush 101, 2) := by decide +kernel
theorem dX7_init_81 : decode cX7_init 81 = .ok (.castore, 1) := by decide +kernel
theorem dX7_init_82 : decode cX7_init 82 = .ok (.dup, 1) := by decide +kernel
theorem dX7_init_83 : decode cX7_init 83 = .ok (.bipush 6, 2) := by decide +kernel
theorem dX7_init_85 : decode cX7_init 85 = .ok (.bipush 101, 2) := by decide +kernel
theorem dX7_init_87 : decode cX7_init 87 = .ok (.castore, 1) := by decide +kernel
theorem dX7_init_88 : decode cX7_init 88 = .ok (.dup, 1) := by decide +kernel
theorem dX7_init_89 : decode cX7_init 89 = .ok (.bipush 7, 2) := by decide +kernel
theorem dX7_init_91 : decode cX7_init 91 = .ok (.bipush 102, 2) := by decide +kernel
theorem dX7_init_93 : decode cX7_init 93 = .ok (.castore, 1) := by decide +kernel
theorem dX7_init_94 : decode cX7_init 94 = .ok (.dup, 1) := by decide +kernel
theorem dX7_init_95 : decode cX7_init 95 = .ok (.bipush 8, 2) := by decide +kernel
theorem dX7_init_97 : decode cX7_init 97 = .ok (.bipush 105, 2) := by decide +kernel
theorem dX7_init_99 : decode cX7_init 99 = .ok (.castore, 1) := by decide +kernel
theorem dX7_init_100 : decode cX7_init 100 = .ok (.dup, 1) := by decide +kernel
theorem dX7_init_101 : decode cX7_init 101 = .ok (.bipush 9, 2) := by decide +kernel
theorem dX7_init_103 : decode cX7_init 103 = .ok (.bipush 110, 2) := by decide +kernel
theorem dX7_init_105 : decode cX7_init 105 = .ok (.castore, 1) := by decide +kernel
theorem dX7_init_106 : decode cX7_init 106 = .ok (.dup, 1) := by decide +kernel
theorem dX7_init_107 : decode cX7_init 107 = .ok (.bipush 10, 2) := by decide +kernel
theorem dX7_init_109 : decode cX7_init 109 = .ok (.bipush 101, 2) := by decide +kernel
theorem dX7_init_111 : decode cX7_init 111 = .ok (.castore, 1) := by decide +kernel
theorem dX7_init_112 : decode cX7_init 112 = .ok (.putfield 25, 3) := by decide +kernel
theorem dX7_init_115 : decode cX7_init 115 = .ok (.aload_n 0, 1) := by decide +kernel
theorem dX7_init_116 : decode cX7_init 116 = .ok (.iconst 4, 1) := by decide +kernel
theorem dX7_init_117 : decode cX7_init 117 = .ok (.newarray .int, 2) := by decide +kernel
theorem dX7_init_119 : decode cX7_init 119 = .ok (.dup, 1) := by decide +kernel
theorem dX7_init_120 : decode cX7_init 120 = .ok (.iconst 0, 1) := by decide +kernel
theorem dX7_init_121 : decode cX7_init 121 = .ok (.iconst 0, 1) := by decide +kernel
theorem dX7_init_122 : decode cX7_init 122 = .ok (.iastore, 1) := by decide +kernel
theorem dX7_init_123 : decode cX7_init 123 = .ok (.dup, 1) := by decide +kernel
theorem dX7_init_124 : decode cX7_init 124 = .ok (.iconst 1, 1) := by decide +kernel
theorem dX7_init_125 : decode cX7_init 125 = .ok (.iconst 4, 1) := by decide +kernel
theorem dX7_init_126 : decode cX7_init 126 = .ok (.iastore, 1) := by decide +kernel
theorem dX7_init_127 : decode cX7_init 127 = .ok (.dup, 1) := by decide +kernel
theorem dX7_init_128 : decode cX7_init 128 = .ok (.iconst 2, 1) := by decide +kernel
theorem dX7_init_129 : decode cX7_init 129 = .ok (.bipush 7, 2) := by decide +kernel
theorem dX7_init_131 : decode cX7_init 131 = .ok (.iastore, 1) := by decide +kernel
theorem dX7_init_132 : decode cX7_init 132 = .ok (.dup, 1) := by decide +kernel
theorem dX7_init_133 : decode cX7_init 133 = .ok (.iconst 3, 1) := by decide +kernel
theorem dX7_init_134 : decode cX7_init 134 = .ok (.bipush 11, 2) := by decide +kernel
theorem dX7_init_136 : decode cX7_init 136 = .ok (.iastore, 1) := by decide +kernel
theorem dX7_init_137 : decode cX7_init 137 = .ok (.putfield 29, 3) := by decide +kernel
theorem dX7_init_140 : decode cX7_init 140 = .ok (.aload_n 0, 1) := by decide +kernel
theorem dX7_init_141 : decode cX7_init 141 = .ok (.bipush 96, 2) := by decide +kernel
theorem dX7_init_143 : decode cX7_init 143 = .ok (.newarray .int, 2) := by decide +kernel
theorem dX7_init_145 : decode cX7_init 145 = .ok (.putfield 32, 3) := by decide +kernel
theorem dX7_init_148 : decode cX7_init 148 = .ok (.aload_n 0, 1) := by decide +kernel
theorem dX7_init_149 : decode cX7_init 149 = .ok (.bipush 96, 2) := by decide +kernel
theorem dX7_init_151 : decode cX7_init 151 = .ok (.newarray .int, 2) := by decide +kernel
theorem dX7_init_153 : decode cX7_init 153 = .ok (.putfield 35, 3) := by decide +kernel
theorem dX7_init_156 : decode cX7_init 156 = .ok (.aload_n 0, 1) := by decide +kernel
theorem dX7_init_157 : decode cX7_init 157 = .ok (.bipush 10, 2) := by decide +kernel
theorem dX7_init_159 : decode cX7_init 159 = .ok (.newarray .boolean, 2) := by decide +kernel
theorem dX7_init_161 : decode cX7_init 161 = .ok (.putfield 38, 3) := by decide +kernel
theorem dX7_init_164 : decode cX7_init 164 = .ok (.aload_n 0, 1) := by decide +kernel
theorem dX7_init_165 : decode cX7_init 165 = .ok (.bipush 96, 2) := by decide +kernel
theorem dX7_init_167 : decode cX7_init 167 = .ok (.newarray .int, 2) := by decide +kernel
theorem dX7_init_169 : decode cX7_init 169 = .ok (.putfield 42, 3) := by decide +kernel
theorem dX7_init_172 : decode cX7_init 172 = .ok (.aload_n 0, 1) := by decide +kernel
theorem dX7_init_173 : decode cX7_init 173 = .ok (.iconst 4, 1) := by decide +kernel
theorem dX7_init_174 : decode cX7_init 174 = .ok (.newarray .int, 2) := by decide +kernel
theorem dX7_init_176 : decode cX7_init 176 = .ok (.putfield 45, 3) := by decide +kernel
theorem dX7_init_179 : decode cX7_init 179 = .ok (.aload_n 0, 1) := by decide +kernel
theorem dX7_init_180 : decode cX7_init 180 = .ok (.iconst 4, 1) := by decide +kernel
theorem dX7_init_181 : decode cX7_init 181 = .ok (.newarray .int, 2) := by decide +kernel
theorem dX7_init_183 : decode cX7_init 183 = .ok (.dup, 1) := by decide +kernel
theorem dX7_init_184 : decode cX7_init 184 = .ok (.iconst 0, 1) := by decide +kernel
theorem dX7_init_185 : decode cX7_init 185 = .ok (.iconst (-1), 1) := by decide +kernel
theorem dX7_init_186 : decode cX7_init 186 = .ok (.iastore, 1) := by decide +kernel
theorem dX7_init_187 : decode cX7_init 187 = .ok (.dup, 1) := by decide +kernel
theorem dX7_init_188 : decode cX7_init 188 = .ok (.iconst 1, 1) := by decide +kernel
theorem dX7_init_189 : decode cX7_init 189 = .ok (.iconst (-1), 1) := by decide +kernel
theorem dX7_init_190 : decode cX7_init 190 = .ok (.iastore, 1) := by decide +kernel
theorem dX7_init_191 : decode cX7_init 191 = .ok (.dup, 1) := by decide +kernel
theorem dX7_init_192 : decode cX7_init 192 = .ok (.iconst 2, 1) := by decide +kernel
theorem dX7_init_193 : decode cX7_init 193 = .ok (.iconst (-1), 1) := by decide +kernel
theorem dX7_init_194 : decode cX7_init 194 = .ok (.iastore, 1) := by decide +kernel
theorem dX7_init_195 : decode cX7_init 195 = .ok (.dup, 1) := by decide +kernel
theorem dX7_init_196 : decode cX7_init 196 = .ok (.iconst 3, 1) := by decide +kernel
theorem dX7_init_197 : decode cX7_init 197 = .ok (.iconst (-1), 1) := by decide +kernel
theorem dX7_init_198 : decode cX7_init 198 = .ok (.iastore, 1) := by decide +kernel
theorem dX7_init_199 : decode cX7_init 199 = .ok (.putfield 48, 3) := by decide +kernel
theorem dX7_init_202 : decode cX7_init 202 = .ok (.aload_n 0, 1) := by decide +kernel
theorem dX7_init_203 : decode cX7_init 203 = .ok (.iconst 4, 1) := by decide +kernel
theorem dX7_init_204 : decode cX7_init 204 = .ok (.newarray .int, 2) := by decide +kernel
theorem dX7_init_206 : decode cX7_init 206 = .ok (.putfield 51, 3) := by decide +kernel
theorem dX7_init_209 : decode cX7_init 209 = .ok (.aload_n 0, 1) := by decide +kernel
theorem dX7_init_210 : decode cX7_init 210 = .ok (.bipush 96, 2) := by decide +kernel
theorem dX7_init_212 : decode cX7_init 212 = .ok (.newarray .int, 2) := by decide +kernel
theorem dX7_init_214 : decode cX7_init 214 = .ok (.putfield 54, 3) := by decide +kernel
theorem dX7_init_217 : decode cX7_init 217 = .ok (.aload_n 0, 1) := by decide +kernel
theorem dX7_init_218 : decode cX7_init 218 = .ok (.iconst 5, 1) := by decide +kernel
theorem dX7_init_219 : decode cX7_init 219 = .ok (.newarray .int, 2) := by decide +kernel
theorem dX7_init_221 : decode cX7_init 221 = .ok (.putfield 57, 3) := by decide +kernel
theorem dX7_init_224 : decode cX7_init 224 = .ok (.aload_n 0, 1) := by decide +kernel
theorem dX7_init_225 : decode cX7_init 225 = .ok (.iconst 5, 1) := by decide +kernel
theorem dX7_init_226 : decode cX7_init 226 = .ok (.newarray .int, 2) := by decide +kernel
theorem dX7_init_228 : decode cX7_init 228 = .ok (.putfield 60, 3) := by decide +kernel
theorem dX7_init_231 : decode cX7_init 231 = .ok (.aload_n 0, 1) := by decide +kernel
theorem dX7_init_232 : decode cX7_init 232 = .ok (.iconst 5, 1) := by decide +kernel
theorem dX7_init_233 : decode cX7_init 233 = .ok (.newarray .int, 2) := by decide +kernel
theorem dX7_init_235 : decode cX7_init 235 = .ok (.putfield 63, 3) := by decide +kernel
theorem dX7_init_238 : decode cX7_init 238 = .ok (.aload_n 0, 1) := by decide +kernel
theorem dX7_init_239 : decode cX7_init 239 = .ok (.bipush 120, 2) := by decide +kernel
theorem dX7_init_241 : decode cX7_init 241 = .ok (.newarray .int, 2) := by decide +kernel
theorem dX7_init_243 : decode cX7_init 243 = .ok (.putfield 66, 3) := by decide +kernel
theorem dX7_init_246 : decode cX7_init 246 = .ok (.aload_n 0, 1) := by decide +kernel
theorem dX7_init_247 : decode cX7_init 247 = .ok (.bipush 24, 2) := by decide +kernel
theorem dX7_init_249 : decode cX7_init 249 = .ok (.newarray .int, 2) := by decide +kernel
theorem dX7_init_251 : decode cX7_init 251 = .ok (.putfield 69, 3) := by decide +kernel
theorem dX7_init_254 : decode cX7_init 254 = .ok (.aload_n 0, 1) := by decide +kernel
theorem dX7_init_255 : decode cX7_init 255 = .ok (.bipush 60, 2) := by decide +kernel
theorem dX7_init_257 : decode cX7_init 257 = .ok (.newarray .int, 2) := by decide +kernel
theorem dX7_init_259 : decode cX7_init 259 = .ok (.putfield 72, 3) := by decide +kernel
theorem dX7_init_262 : decode cX7_init 262 = .ok (.aload_n 0, 1) := by decide +kernel
theorem dX7_init_263 : decode cX7_init 263 = .ok (.getfield 9, 3) := by decide +kernel
theorem dX7_init_266 : decode cX7_init 266 = .ok (.iconst 0, 1) := by decide +kernel
theorem dX7_init_267 : decode cX7_init 267 = .ok (.iconst 1, 1) := by decide +kernel
theorem dX7_init_268 : decode cX7_init 268 = .ok (.iastore, 1) := by decide +kernel
theorem dX7_init_269 : decode cX7_init 269 = .ok (.return_, 1) := by decide +kernel
theorem dX7_in_0 : decode cX7_in 0 = .ok (.iload_n 0, 1) := by decide +kernel
theorem dX7_in_1 : decode cX7_in 1 = .ok (.iload_n 1, 1) := by decide +kernel
theorem dX7_in_2 : decode cX7_in 2 = .ok (.if_icmp .lt 12, 3) := by decide +kernel
theorem dX7_in_5 : decode cX7_in 5 = .ok (.iload_n 0, 1) := by decide +kernel
theorem dX7_in_6 : decode cX7_in 6 = .ok (.iload_n 2, 1) := by decide +kernel
theorem dX7_in_7 : decode cX7_in 7 = .ok (.if_icmp .gt 7, 3) := by decide +kernel
theorem dX7_in_10 : decode cX7_in 10 = .ok (.iconst 1, 1) := by decide +kernel
theorem dX7_in_11 : decode cX7_in 11 = .ok (.goto 4, 3) := by decide +kernel
theorem dX7_in_14 : decode cX7_in 14 = .ok (.iconst 0, 1) := by decide +kernel
theorem dX7_in_15 : decode cX7_in 15 = .ok (.ireturn, 1) := by decide +kernel
theorem dX7_within_0 : decode cX7_within 0 = .ok (.iload_n 0, 1) := by decide +kernel
theorem dX7_within_1 : decode cX7_within 1 = .ok (.iload_n 1, 1) := by decide +kernel
theorem dX7_within_2 : decode cX7_within 2 = .ok (.if_icmp .ge 7, 3) := by decide +kernel
theorem dX7_within_5 : decode cX7_within 5 = .ok (.iload_n 1, 1) := by decide +kernel
theorem dX7_within_6 : decode cX7_within 6 = .ok (.goto 13, 3) := by decide +kernel
theorem dX7_within_9 : decode cX7_within 9 = .ok (.iload_n 0, 1) := by decide +kernel
theorem dX7_within_10 : decode cX7_within 10 = .ok (.iload_n 2, 1) := by decide +kernel
theorem dX7_within_11 : decode cX7_within 11 = .ok (.if_icmp .le 7, 3) := by decide +kernel
theorem dX7_within_14 : decode cX7_within 14 = .ok (.iload_n 2, 1) := by decide +kernel
theorem dX7_within_15 : decode cX7_within 15 = .ok (.goto 4, 3) := by decide +kernel
theorem dX7_within_18 : decode cX7_within 18 = .ok (.iload_n 0, 1) := by decide +kernel
theorem dX7_within_19 : decode cX7_within 19 = .ok (.ireturn, 1) := by decide +kernel
theorem dX7_copyAll_0 : decode cX7_copyAll 0 = .ok (.iconst 0, 1) := by decide +kernel
theorem dX7_copyAll_1 : decode cX7_copyAll 1 = .ok (.istore_n 2, 1) := by decide +kernel
theorem dX7_copyAll_2 : decode cX7_copyAll 2 = .ok (.iload_n 2, 1) := by decide +kernel
theorem dX7_copyAll_3 : decode cX7_copyAll 3 = .ok (.sipush 1471, 3) := by decide +kernel
theorem dX7_copyAll_6 : decode cX7_copyAll 6 = .ok (.if_icmp .ge 15, 3) := by decide +kernel
theorem dX7_copyAll_9 : decode cX7_copyAll 9 = .ok (.aload_n 1, 1) := by decide +kernel
theorem dX7_copyAll_10 : decode cX7_copyAll 10 = .ok (.iload_n 2, 1) := by decide +kernel
theorem dX7_copyAll_11 : decode cX7_copyAll 11 = .ok (.aload_n 0, 1) := by decide +kernel
theorem dX7_copyAll_12 : decode cX7_copyAll 12 = .ok (.iload_n 2, 1) := by decide +kernel
theorem dX7_copyAll_13 : decode cX7_copyAll 13 = .ok (.iaload, 1) := by decide +kernel
theorem dX7_copyAll_14 : decode cX7_copyAll 14 = .ok (.iastore, 1) := by decide +kernel
theorem dX7_copyAll_15 : decode cX7_copyAll 15 = .ok (.iinc 2 1, 3) := by decide +kernel
theorem dX7_copyAll_18 : decode cX7_copyAll 18 = .ok (.goto (-16), 3) := by decide +kernel
theorem dX7_copyAll_21 : decode cX7_copyAll 21 = .ok (.return_, 1) := by decide +kernel
theorem dX7_bits_0 : decode cX7_bits 0 = .ok (.iconst 0, 1) := by decide +kernel
theorem dX7_bits_1 : decode cX7_bits 1 = .ok (.istore_n 1, 1) := by decide +kernel
theorem dX7_bits_2 : decode cX7_bits 2 = .ok (.iload_n 0, 1) := by decide +kernel
theorem dX7_bits_3 : decode cX7_bits 3 = .ok (.istore_n 2, 1) := by decide +kernel
theorem dX7_bits_4 : decode cX7_bits 4 = .ok (.iload_n 2, 1) := by decide +kernel
theorem dX7_bits_5 : decode cX7_bits 5 = .ok (.ifCond .eq 15, 3) := by decide +kernel
theorem dX7_bits_8 : decode cX7_bits 8 = .ok (.iinc 1 1, 3) := by decide +kernel
theorem dX7_bits_11 : decode cX7_bits 11 = .ok (.iload_n 2, 1) := by decide +kernel
theorem dX7_bits_12 : decode cX7_bits 12 = .ok (.iload_n 2, 1) := by decide +kernel
theorem dX7_bits_13 : decode cX7_bits 13 = .ok (.iconst 1, 1) := by decide +kernel
theorem dX7_bits_14 : decode cX7_bits 14 = .ok (.isub, 1) := by decide +kernel
theorem dX7_bits_15 : decode cX7_bits 15 = .ok (.iand, 1) := by decide +kernel
theorem dX7_bits_16 : decode cX7_bits 16 = .ok (.istore_n 2, 1) := by decide +kernel
theorem dX7_bits_17 : decode cX7_bits 17 = .ok (.goto (-13), 3) := by decide +kernel
theorem dX7_bits_20 : decode cX7_bits 20 = .ok (.iload_n 1, 1) := by decide +kernel
theorem dX7_bits_21 : decode cX7_bits 21 = .ok (.ireturn, 1) := by decide +kernel
theorem dX7_isPerson_0 : decode cX7_isPerson 0 = .ok (.iload_n 1, 1) := by decide +kernel
theorem dX7_isPerson_1 : decode cX7_isPerson 1 = .ok (.iconst 0, 1) := by decide +kernel
theorem dX7_isPerson_2 : decode cX7_isPerson 2 = .ok (.aload_n 0, 1) := by decide +kernel
theorem dX7_isPerson_3 : decode cX7_isPerson 3 = .ok (.getfield 9, 3) := by decide +kernel
theorem dX7_isPerson_6 : decode cX7_isPerson 6 = .ok (.iconst 1, 1) := by decide +kernel
theorem dX7_isPerson_7 : decode cX7_isPerson 7 = .ok (.iaload, 1) := by decide +kernel
theorem dX7_isPerson_8 : decode cX7_isPerson 8 = .ok (.iconst 1, 1) := by decide +kernel
theorem dX7_isPerson_9 : decode cX7_isPerson 9 = .ok (.isub, 1) := by decide +kernel
theorem dX7_isPerson_10 : decode cX7_isPerson 10 = .ok (.invokestatic 75, 3) := by decide +kernel
theorem dX7_isPerson_13 : decode cX7_isPerson 13 = .ok (.ireturn, 1) := by decide +kernel
theorem dX7_isField_0 : decode cX7_isField 0 = .ok (.iload_n 0, 1) := by decide +kernel
theorem dX7_isField_1 : decode cX7_isField 1 = .ok (.iconst 0, 1) := by decide +kernel
theorem dX7_isField_2 : decode cX7_isField 2 = .ok (.iconst 5, 1) := by decide +kernel
theorem dX7_isField_3 : decode cX7_isField 3 = .ok (.invokestatic 75, 3) := by decide +kernel
theorem dX7_isField_6 : decode cX7_isField 6 = .ok (.ireturn, 1) := by decide +kernel
theorem dX7_of_0 : decode cX7_of 0 = .ok (.aload_n 0, 1) := by decide +kernel
theorem dX7_of_1 : decode cX7_of 1 = .ok (.getfield 9, 3) := by decide +kernel
theorem dX7_of_4 : decode cX7_of 4 = .ok (.bipush 19, 2) := by decide +kernel
theorem dX7_of_6 : decode cX7_of 6 = .ok (.bipush 10, 2) := by decide +kernel
theorem dX7_of_8 : decode cX7_of 8 = .ok (.iload_n 1, 1) := by decide +kernel
theorem dX7_of_9 : decode cX7_of 9 = .ok (.imul, 1) := by decide +kernel
theorem dX7_of_10 : decode cX7_of 10 = .ok (.iadd, 1) := by decide +kernel
theorem dX7_of_11 : decode cX7_of 11 = .ok (.iload_n 2, 1) := by decide +kernel
theorem dX7_of_12 : decode cX7_of 12 = .ok (.iadd, 1) := by decide +kernel
theorem dX7_of_13 : decode cX7_of 13 = .ok (.iaload, 1) := by decide +kernel
theorem dX7_of_14 : decode cX7_of 14 = .ok (.ireturn, 1) := by decide +kernel
theorem dX7_put_0 : decode cX7_put 0 = .ok (.aload_n 0, 1) := by decide +kernel
theorem dX7_put_1 : decode cX7_put 1 = .ok (.getfield 9, 3) := by decide +kernel
theorem dX7_put_4 : decode cX7_put 4 = .ok (.bipush 19, 2) := by decide +kernel
theorem dX7_put_6 : decode cX7_put 6 = .ok (.bipush 10, 2) := by decide +kernel
theorem dX7_put_8 : decode cX7_put 8 = .ok (.iload_n 1, 1) := by decide +kernel
theorem dX7_put_9 : decode cX7_put 9 = .ok (.imul, 1) := by decide +kernel
theorem dX7_put_10 : decode cX7_put 10 = .ok (.iadd, 1) := by decide +kernel
theorem dX7_put_11 : decode cX7_put 11 = .ok (.iload_n 2, 1) := by decide +kernel
theorem dX7_put_12 : decode cX7_put 12 = .ok (.iadd, 1) := by decide +kernel
theorem dX7_put_13 : decode cX7_put 13 = .ok (.iload_n 3, 1) := by decide +kernel
theorem dX7_put_14 : decode cX7_put 14 = .ok (.iastore, 1) := by decide +kernel
theorem dX7_put_15 : decode cX7_put 15 = .ok (.return_, 1) := by decide +kernel
theorem dX7_thinks_0 : decode cX7_thinks 0 = .ok (.aload_n 0, 1) := by decide +kernel
theorem dX7_thinks_1 : decode cX7_thinks 1 = .ok (.iload_n 1, 1) := by decide +kernel
theorem dX7_thinks_2 : decode cX7_thinks 2 = .ok (.iconst 4, 1) := by decide +kernel
theorem dX7_thinks_3 : decode cX7_thinks 3 = .ok (.iload_n 2, 1) := by decide +kernel
theorem dX7_thinks_4 : decode cX7_thinks 4 = .ok (.iadd, 1) := by decide +kernel
theorem dX7_thinks_5 : decode cX7_thinks 5 = .ok (.invokevirtual 79, 3) := by decide +kernel
theorem dX7_thinks_8 : decode cX7_thinks 8 = .ok (.ireturn, 1) := by decide +kernel
theorem dX7_swaps_0 : decode cX7_swaps 0 = .ok (.aload_n 0, 1) := by decide +kernel
theorem dX7_swaps_1 : decode cX7_swaps 1 = .ok (.getfield 9, 3) := by decide +kernel
theorem dX7_swaps_4 : decode cX7_swaps 4 = .ok (.iload_n 1, 1) := by decide +kernel
theorem dX7_swaps_5 : decode cX7_swaps 5 = .ok (.iaload, 1) := by decide +kernel
theorem dX7_swaps_6 : decode cX7_swaps 6 = .ok (.istore_n 3, 1) := by decide +kernel
theorem dX7_swaps_7 : decode cX7_swaps 7 = .ok (.aload_n 0, 1) := by decide +kernel
theorem dX7_swaps_8 : decode cX7_swaps 8 = .ok (.getfield 9, 3) := by decide +kernel
theorem dX7_swaps_11 : decode cX7_swaps 11 = .ok (.iload_n 1, 1) := by decide +kernel
theorem dX7_swaps_12 : decode cX7_swaps 12 = .ok (.iload_n 2, 1) := by decide +kernel
theorem dX7_swaps_13 : decode cX7_swaps 13 = .ok (.iastore, 1) := by decide +kernel
theorem dX7_swaps_14 : decode cX7_swaps 14 = .ok (.iload_n 3, 1) := by decide +kernel
theorem dX7_swaps_15 : decode cX7_swaps 15 = .ok (.ireturn, 1) := by decide +kernel
theorem dX7_off_0 : decode cX7_off 0 = .ok (.iload_n 0, 1) := by decide +kernel
theorem dX7_off_1 : decode cX7_off 1 = .ok (.ifCond .ge 8, 3) := by decide +kernel
theorem dX7_off_4 : decode cX7_off 4 = .ok (.iload_n 0, 1) := by decide +kernel
theorem dX7_off_5 : decode cX7_off 5 = .ok (.ineg, 1) := by decide +kernel
theorem dX7_off_6 : decode cX7_off 6 = .ok (.goto 4, 3) := by decide +kernel
theorem dX7_off_9 : decode cX7_off 9 = .ok (.iload_n 0, 1) := by decide +kernel
theorem dX7_off_10 : decode cX7_off 10 = .ok (.ireturn, 1) := by decide +kernel
theorem dX7_worthOf_0 : decode cX7_worthOf 0 = .ok (.aload_n 0, 1) := by decide +kernel
theorem dX7_worthOf_1 : decode cX7_worthOf 1 = .ok (.iload_n 1, 1) := by decide +kernel
theorem dX7_worthOf_2 : decode cX7_worthOf 2 = .ok (.iconst 0, 1) := by decide +kernel
theorem dX7_worthOf_3 : decode cX7_worthOf 3 = .ok (.invokevirtual 79, 3) := by decide +kernel
theorem dX7_worthOf_6 : decode cX7_worthOf 6 = .ok (.tableswitch 42 1 5 #[34, 36, 38, 40, 34], 34) := by decide +kernel
theorem dX7_worthOf_40 : decode cX7_worthOf 40 = .ok (.iconst 1, 1) := by decide +kernel
theorem dX7_worthOf_41 : decode cX7_worthOf 41 = .ok (.ireturn, 1) := by decide +kernel
theorem dX7_worthOf_42 : decode cX7_worthOf 42 = .ok (.iconst 5, 1) := by decide +kernel
theorem dX7_worthOf_43 : decode cX7_worthOf 43 = .ok (.ireturn, 1) := by decide +kernel
theorem dX7_worthOf_44 : decode cX7_worthOf 44 = .ok (.iconst 3, 1) := by decide +kernel
theorem dX7_worthOf_45 : decode cX7_worthOf 45 = .ok (.ireturn, 1) := by decide +kernel
theorem dX7_worthOf_46 : decode cX7_worthOf 46 = .ok (.iconst 4, 1) := by decide +kernel
theorem dX7_worthOf_47 : decode cX7_worthOf 47 = .ok (.ireturn, 1) := by decide +kernel
theorem dX7_worthOf_48 : decode cX7_worthOf 48 = .ok (.iconst 2, 1) := by decide +kernel
theorem dX7_worthOf_49 : decode cX7_worthOf 49 = .ok (.ireturn, 1) := by decide +kernel
theorem dX7_thinkers_0 : decode cX7_thinkers 0 = .ok (.iconst 0, 1) := by decide +kernel
theorem dX7_thinkers_1 : decode cX7_thinkers 1 = .ok (.istore_n 3, 1) := by decide +kernel
theorem dX7_thinkers_2 : decode cX7_thinkers 2 = .ok (.iconst 0, 1) := by decide +kernel
theorem dX7_thinkers_3 : decode cX7_thinkers 3 = .ok (.istore 4, 2) := by decide +kernel
theorem dX7_thinkers_5 : decode cX7_thinkers 5 = .ok (.iload 4, 2) := by decide +kernel
theorem dX7_thinkers_7 : decode cX7_thinkers 7 = .ok (.aload_n 0, 1) := by decide +kernel
theorem dX7_thinkers_8 : decode cX7_thinkers 8 = .ok (.getfield 9, 3) := by decide +kernel
theorem dX7_thinkers_11 : decode cX7_thinkers 11 = .ok (.iconst 1, 1) := by decide +kernel
theorem dX7_thinkers_12 : decode cX7_thinkers 12 = .ok (.iaload, 1) := by decide +kernel
theorem dX7_thinkers_13 : decode cX7_thinkers 13 = .ok (.if_icmp .ge 31, 3) := by decide +kernel
theorem dX7_thinkers_16 : decode cX7_thinkers 16 = .ok (.iload_n 3, 1) := by decide +kernel
theorem dX7_thinkers_17 : decode cX7_thinkers 17 = .ok (.aload_n 0, 1) := by decide +kernel
theorem dX7_thinkers_18 : decode cX7_thinkers 18 = .ok (.iload 4, 2) := by decide +kernel
theorem dX7_thinkers_20 : decode cX7_thinkers 20 = .ok (.iload_n 1, 1) := by decide +kernel
theorem dX7_thinkers_21 : decode cX7_thinkers 21 = .ok (.invokevirtual 83, 3) := by decide +kernel
theorem dX7_thinkers_24 : decode cX7_thinkers 24 = .ok (.iload_n 2, 1) := by decide +kernel
theorem dX7_thinkers_25 : decode cX7_thinkers 25 = .ok (.if_icmp .ne 10, 3) := by decide +kernel
theorem dX7_thinkers_28 : decode cX7_thinkers 28 = .ok (.iconst 1, 1) := by decide +kernel
theorem dX7_thinkers_29 : decode cX7_thinkers 29 = .ok (.iload 4, 2) := by decide +kernel
theorem dX7_thinkers_31 : decode cX7_thinkers 31 = .ok (.ishl, 1) := by decide +kernel
theorem dX7_thinkers_32 : decode cX7_thinkers 32 = .ok (.goto 4, 3) := by decide +kernel
theorem dX7_thinkers_35 : decode cX7_thinkers 35 = .ok (.iconst 0, 1) := by decide +kernel
theorem dX7_thinkers_36 : decode cX7_thinkers 36 = .ok (.ior, 1) := by decide +kernel
theorem dX7_thinkers_37 : decode cX7_thinkers 37 = .ok (.istore_n 3, 1) := by decide +kernel
theorem dX7_thinkers_38 : decode cX7_thinkers 38 = .ok (.iinc 4 1, 3) := by decide +kernel
theorem dX7_thinkers_41 : decode cX7_thinkers 41 = .ok (.goto (-36), 3) := by decide +kernel
theorem dX7_thinkers_44 : decode cX7_thinkers 44 = .ok (.iload_n 3, 1) := by decide +kernel
theorem dX7_thinkers_45 : decode cX7_thinkers 45 = .ok (.ireturn, 1) := by decide +kernel
theorem dX7_votesFor_0 : decode cX7_votesFor 0 = .ok (.iconst 0, 1) := by decide +kernel
theorem dX7_votesFor_1 : decode cX7_votesFor 1 = .ok (.istore_n 3, 1) := by decide +kernel
theorem dX7_votesFor_2 : decode cX7_votesFor 2 = .ok (.iconst 0, 1) := by decide +kernel
theorem dX7_votesFor_3 : decode cX7_votesFor 3 = .ok (.istore 4, 2) := by decide +kernel
theorem dX7_votesFor_5 : decode cX7_votesFor 5 = .ok (.iload 4, 2) := by decide +kernel
theorem dX7_votesFor_7 : decode cX7_votesFor 7 = .ok (.aload_n 0, 1) := by decide +kernel
theorem dX7_votesFor_8 : decode cX7_votesFor 8 = .ok (.getfield 9, 3) := by decide +kernel
theorem dX7_votesFor_11 : decode cX7_votesFor 11 = .ok (.iconst 1, 1) := by decide +kernel
theorem dX7_votesFor_12 : decode cX7_votesFor 12 = .ok (.iaload, 1) := by decide +kernel
theorem dX7_votesFor_13 : decode cX7_votesFor 13 = .ok (.if_icmp .ge 33, 3) := by decide +kernel
theorem dX7_votesFor_16 : decode cX7_votesFor 16 = .ok (.iload_n 3, 1) := by decide +kernel
theorem dX7_votesFor_17 : decode cX7_votesFor 17 = .ok (.aload_n 0, 1) := by decide +kernel
theorem dX7_votesFor_18 : decode cX7_votesFor 18 = .ok (.iload 4, 2) := by decide +kernel
theorem dX7_votesFor_20 : decode cX7_votesFor 20 = .ok (.iload_n 1, 1) := by decide +kernel
theorem dX7_votesFor_21 : decode cX7_votesFor 21 = .ok (.invokevirtual 83, 3) := by decide +kernel
theorem dX7_votesFor_24 : decode cX7_votesFor 24 = .ok (.iload_n 2, 1) := by decide +kernel
theorem dX7_votesFor_25 : decode cX7_votesFor 25 = .ok (.if_icmp .ne 12, 3) := by decide +kernel
theorem dX7_votesFor_28 : decode cX7_votesFor 28 = .ok (.aload_n 0, 1) := by decide +kernel
theorem dX7_votesFor_29 : decode cX7_votesFor 29 = .ok (.iload 4, 2) := by decide +kernel
theorem dX7_votesFor_31 : decode cX7_votesFor 31 = .ok (.invokevirtual 86, 3) := by decide +kernel
theorem dX7_votesFor_34 : decode cX7_votesFor 34 = .ok (.goto 4, 3) := by decide +kernel
theorem dX7_votesFor_37 : decode cX7_votesFor 37 = .ok (.iconst 0, 1) := by decide +kernel
theorem dX7_votesFor_38 : decode cX7_votesFor 38 = .ok (.iadd, 1) := by decide +kernel
theorem dX7_votesFor_39 : decode cX7_votesFor 39 = .ok (.istore_n 3, 1) := by decide +kernel
theorem dX7_votesFor_40 : decode cX7_votesFor 40 = .ok (.iinc 4 1, 3) := by decide +kernel
theorem dX7_votesFor_43 : decode cX7_votesFor 43 = .ok (.goto (-38), 3) := by decide +kernel
theorem dX7_votesFor_46 : decode cX7_votesFor 46 = .ok (.iload_n 3, 1) := by decide +kernel
theorem dX7_votesFor_47 : decode cX7_votesFor 47 = .ok (.ireturn, 1) := by decide +kernel
theorem dX7_firstOf_0 : decode cX7_firstOf 0 = .ok (.iconst 0, 1) := by decide +kernel
theorem dX7_firstOf_1 : decode cX7_firstOf 1 = .ok (.istore_n 2, 1) := by decide +kernel
theorem dX7_firstOf_2 : decode cX7_firstOf 2 = .ok (.iconst 0, 1) := by decide +kernel
theorem dX7_firstOf_3 : decode cX7_firstOf 3 = .ok (.istore_n 3, 1) := by decide +kernel
theorem dX7_firstOf_4 : decode cX7_firstOf 4 = .ok (.iconst 1, 1) := by decide +kernel
theorem dX7_firstOf_5 : decode cX7_firstOf 5 = .ok (.istore 4, 2) := by decide +kernel
theorem dX7_firstOf_7 : decode cX7_firstOf 7 = .ok (.iload 4, 2) := by decide +kernel
theorem dX7_firstOf_9 : decode cX7_firstOf 9 = .ok (.bipush 10, 2) := by decide +kernel
theorem dX7_firstOf_11 : decode cX7_firstOf 11 = .ok (.if_icmp .ge 44, 3) := by decide +kernel
theorem dX7_firstOf_14 : decode cX7_firstOf 14 = .ok (.aload_n 0, 1) := by decide +kernel
theorem dX7_firstOf_15 : decode cX7_firstOf 15 = .ok (.iload_n 1, 1) := by decide +kernel
theorem dX7_firstOf_16 : decode cX7_firstOf 16 = .ok (.iload 4, 2) := by decide +kernel
theorem dX7_firstOf_18 : decode cX7_firstOf 18 = .ok (.invokevirtual 90, 3) := by decide +kernel
theorem dX7_firstOf_21 : decode cX7_firstOf 21 = .ok (.istore 5, 2) := by decide +kernel
theorem dX7_firstOf_23 : decode cX7_firstOf 23 = .ok (.iload 5, 2) := by decide +kernel
theorem dX7_firstOf_25 : decode cX7_firstOf 25 = .ok (.iload_n 3, 1) := by decide +kernel
theorem dX7_firstOf_26 : decode cX7_firstOf 26 = .ok (.if_icmp .le 8, 3) := by decide +kernel
theorem dX7_firstOf_29 : decode cX7_firstOf 29 = .ok (.iload 4, 2) := by decide +kernel
theorem dX7_firstOf_31 : decode cX7_firstOf 31 = .ok (.goto 4, 3) := by decide +kernel
theorem dX7_firstOf_34 : decode cX7_firstOf 34 = .ok (.iload_n 2, 1) := by decide +kernel
theorem dX7_firstOf_35 : decode cX7_firstOf 35 = .ok (.istore_n 2, 1) := by decide +kernel
theorem dX7_firstOf_36 : decode cX7_firstOf 36 = .ok (.iload 5, 2) := by decide +kernel
theorem dX7_firstOf_38 : decode cX7_firstOf 38 = .ok (.iload_n 3, 1) := by decide +kernel
theorem dX7_firstOf_39 : decode cX7_firstOf 39 = .ok (.if_icmp .le 8, 3) := by decide +kernel
theorem dX7_firstOf_42 : decode cX7_firstOf 42 = .ok (.iload 5, 2) := by decide +kernel
theorem dX7_firstOf_44 : decode cX7_firstOf 44 = .ok (.goto 4, 3) := by decide +kernel
theorem dX7_firstOf_47 : decode cX7_firstOf 47 = .ok (.iload_n 3, 1) := by decide +kernel
theorem dX7_firstOf_48 : decode cX7_firstOf 48 = .ok (.istore_n 3, 1) := by decide +kernel
theorem dX7_firstOf_49 : decode cX7_firstOf 49 = .ok (.iinc 4 1, 3) := by decide +kernel
theorem dX7_firstOf_52 : decode cX7_firstOf 52 = .ok (.goto (-45), 3) := by decide +kernel
theorem dX7_firstOf_55 : decode cX7_firstOf 55 = .ok (.iload_n 2, 1) := by decide +kernel
theorem dX7_firstOf_56 : decode cX7_firstOf 56 = .ok (.ireturn, 1) := by decide +kernel
theorem dX7_saysOf_0 : decode cX7_saysOf 0 = .ok (.aload_n 0, 1) := by decide +kernel
theorem dX7_saysOf_1 : decode cX7_saysOf 1 = .ok (.iload_n 1, 1) := by decide +kernel
theorem dX7_saysOf_2 : decode cX7_saysOf 2 = .ok (.iload_n 2, 1) := by decide +kernel
theorem dX7_saysOf_3 : decode cX7_saysOf 3 = .ok (.invokevirtual 83, 3) := by decide +kernel
theorem dX7_saysOf_6 : decode cX7_saysOf 6 = .ok (.istore_n 3, 1) := by decide +kernel
theorem dX7_saysOf_7 : decode cX7_saysOf 7 = .ok (.iload_n 3, 1) := by decide +kernel
theorem dX7_saysOf_8 : decode cX7_saysOf 8 = .ok (.ifCond .ne 7, 3) := by decide +kernel
theorem dX7_saysOf_11 : decode cX7_saysOf 11 = .ok (.iconst 0, 1) := by decide +kernel
theorem dX7_saysOf_12 : decode cX7_saysOf 12 = .ok (.goto 16, 3) := by decide +kernel
theorem dX7_saysOf_15 : decode cX7_saysOf 15 = .ok (.iload_n 3, 1) := by decide +kernel
theorem dX7_saysOf_16 : decode cX7_saysOf 16 = .ok (.bipush 9, 2) := by decide +kernel
theorem dX7_saysOf_18 : decode cX7_saysOf 18 = .ok (.if_icmp .ne 7, 3) := by decide +kernel
theorem dX7_saysOf_21 : decode cX7_saysOf 21 = .ok (.iconst 1, 1) := by decide +kernel
theorem dX7_saysOf_22 : decode cX7_saysOf 22 = .ok (.goto 6, 3) := by decide +kernel
theorem dX7_saysOf_25 : decode cX7_saysOf 25 = .ok (.iload_n 3, 1) := by decide +kernel
theorem dX7_saysOf_26 : decode cX7_saysOf 26 = .ok (.iconst 1, 1) := by decide +kernel
theorem dX7_saysOf_27 : decode cX7_saysOf 27 = .ok (.iadd, 1) := by decide +kernel
theorem dX7_saysOf_28 : decode cX7_saysOf 28 = .ok (.istore 4, 2) := by decide +kernel
theorem dX7_saysOf_30 : decode cX7_saysOf 30 = .ok (.aload_n 0, 1) := by decide +kernel
theorem dX7_saysOf_31 : decode cX7_saysOf 31 = .ok (.iload_n 1, 1) := by decide +kernel
theorem dX7_saysOf_32 : decode cX7_saysOf 32 = .ok (.iconst 0, 1) := by decide +kernel
theorem dX7_saysOf_33 : decode cX7_saysOf 33 = .ok (.invokevirtual 79, 3) := by decide +kernel
theorem dX7_saysOf_36 : decode cX7_saysOf 36 = .ok (.iconst 4, 1) := by decide +kernel
theorem dX7_saysOf_37 : decode cX7_saysOf 37 = .ok (.if_icmp .ne 11, 3) := by decide +kernel
theorem dX7_saysOf_40 : decode cX7_saysOf 40 = .ok (.aload_n 0, 1) := by decide +kernel
theorem dX7_saysOf_41 : decode cX7_saysOf 41 = .ok (.iload_n 2, 1) := by decide +kernel
theorem dX7_saysOf_42 : decode cX7_saysOf 42 = .ok (.invokevirtual 93, 3) := by decide +kernel
theorem dX7_saysOf_45 : decode cX7_saysOf 45 = .ok (.goto 4, 3) := by decide +kernel
theorem dX7_saysOf_48 : decode cX7_saysOf 48 = .ok (.iconst 0, 1) := by decide +kernel
theorem dX7_saysOf_49 : decode cX7_saysOf 49 = .ok (.istore 5, 2) := by decide +kernel
theorem dX7_saysOf_51 : decode cX7_saysOf 51 = .ok (.aload_n 0, 1) := by decide +kernel
theorem dX7_saysOf_52 : decode cX7_saysOf 52 = .ok (.iload_n 1, 1) := by decide +kernel
theorem dX7_saysOf_53 : decode cX7_saysOf 53 = .ok (.iconst 0, 1) := by decide +kernel
theorem dX7_saysOf_54 : decode cX7_saysOf 54 = .ok (.invokevirtual 79, 3) := by decide +kernel
theorem dX7_saysOf_57 : decode cX7_saysOf 57 = .ok (.tableswitch 86 1 5 #[35, 38, 48, 63, 83], 35) := by decide +kernel
theorem dX7_saysOf_92 : decode cX7_saysOf 92 = .ok (.iload 4, 2) := by decide +kernel
theorem dX7_saysOf_94 : decode cX7_saysOf 94 = .ok (.ireturn, 1) := by decide +kernel
theorem dX7_saysOf_95 : decode cX7_saysOf 95 = .ok (.aload_n 0, 1) := by decide +kernel
theorem dX7_saysOf_96 : decode cX7_saysOf 96 = .ok (.getfield 9, 3) := by decide +kernel
theorem dX7_saysOf_99 : decode cX7_saysOf 99 = .ok (.bipush 7, 2) := by decide +kernel
theorem dX7_saysOf_101 : decode cX7_saysOf 101 = .ok (.iload_n 2, 1) := by decide +kernel
theorem dX7_saysOf_102 : decode cX7_saysOf 102 = .ok (.iadd, 1) := by decide +kernel
theorem dX7_saysOf_103 : decode cX7_saysOf 103 = .ok (.iaload, 1) := by decide +kernel
theorem dX7_saysOf_104 : decode cX7_saysOf 104 = .ok (.ireturn, 1) := by decide +kernel
theorem dX7_saysOf_105 : decode cX7_saysOf 105 = .ok (.iload 4, 2) := by decide +kernel
theorem dX7_saysOf_107 : decode cX7_saysOf 107 = .ok (.ifCond .ne 7, 3) := by decide +kernel
theorem dX7_saysOf_110 : decode cX7_saysOf 110 = .ok (.iconst 0, 1) := by decide +kernel
theorem dX7_saysOf_111 : decode cX7_saysOf 111 = .ok (.goto 8, 3) := by decide +kernel
theorem dX7_saysOf_114 : decode cX7_saysOf 114 = .ok (.bipush 10, 2) := by decide +kernel
theorem dX7_saysOf_116 : decode cX7_saysOf 116 = .ok (.iload 4, 2) := by decide +kernel
theorem dX7_saysOf_118 : decode cX7_saysOf 118 = .ok (.isub, 1) := by decide +kernel
theorem dX7_saysOf_119 : decode cX7_saysOf 119 = .ok (.ireturn, 1) := by decide +kernel
theorem dX7_saysOf_120 : decode cX7_saysOf 120 = .ok (.iload 5, 2) := by decide +kernel
theorem dX7_saysOf_122 : decode cX7_saysOf 122 = .ok (.ifCond .ne 15, 3) := by decide +kernel
theorem dX7_saysOf_125 : decode cX7_saysOf 125 = .ok (.aload_n 0, 1) := by decide +kernel
theorem dX7_saysOf_126 : decode cX7_saysOf 126 = .ok (.getfield 9, 3) := by decide +kernel
theorem dX7_saysOf_129 : decode cX7_saysOf 129 = .ok (.bipush 7, 2) := by decide +kernel
theorem dX7_saysOf_131 : decode cX7_saysOf 131 = .ok (.iload_n 2, 1) := by decide +kernel
theorem dX7_saysOf_132 : decode cX7_saysOf 132 = .ok (.iadd, 1) := by decide +kernel
theorem dX7_saysOf_133 : decode cX7_saysOf 133 = .ok (.iaload, 1) := by decide +kernel
theorem dX7_saysOf_134 : decode cX7_saysOf 134 = .ok (.goto 5, 3) := by decide +kernel
theorem dX7_saysOf_137 : decode cX7_saysOf 137 = .ok (.iload 5, 2) := by decide +kernel
theorem dX7_saysOf_139 : decode cX7_saysOf 139 = .ok (.ireturn, 1) := by decide +kernel
theorem dX7_saysOf_140 : decode cX7_saysOf 140 = .ok (.bipush 9, 2) := by decide +kernel
theorem dX7_saysOf_142 : decode cX7_saysOf 142 = .ok (.ireturn, 1) := by decide +kernel
theorem dX7_saysOf_143 : decode cX7_saysOf 143 = .ok (.iload_n 3, 1) := by decide +kernel
theorem dX7_saysOf_144 : decode cX7_saysOf 144 = .ok (.ireturn, 1) := by decide +kernel
theorem dX7_heedsOf_0 : decode cX7_heedsOf 0 = .ok (.aload_n 0, 1) := by decide +kernel
theorem dX7_heedsOf_1 : decode cX7_heedsOf 1 = .ok (.iload_n 2, 1) := by decide +kernel
theorem dX7_heedsOf_2 : decode cX7_heedsOf 2 = .ok (.iload_n 3, 1) := by decide +kernel
theorem dX7_heedsOf_3 : decode cX7_heedsOf 3 = .ok (.invokevirtual 96, 3) := by decide +kernel
theorem dX7_heedsOf_6 : decode cX7_heedsOf 6 = .ok (.invokestatic 99, 3) := by decide +kernel
theorem dX7_heedsOf_9 : decode cX7_heedsOf 9 = .ok (.istore 4, 2) := by decide +kernel
theorem dX7_heedsOf_11 : decode cX7_heedsOf 11 = .ok (.aload_n 0, 1) := by decide +kernel
theorem dX7_heedsOf_12 : decode cX7_heedsOf 12 = .ok (.iconst 0, 1) := by decide +kernel
theorem dX7_heedsOf_13 : decode cX7_heedsOf 13 = .ok (.invokevirtual 102, 3) := by decide +kernel
theorem dX7_heedsOf_16 : decode cX7_heedsOf 16 = .ok (.istore 5, 2) := by decide +kernel
theorem dX7_heedsOf_18 : decode cX7_heedsOf 18 = .ok (.aload_n 0, 1) := by decide +kernel
theorem dX7_heedsOf_19 : decode cX7_heedsOf 19 = .ok (.getfield 45, 3) := by decide +kernel
theorem dX7_heedsOf_22 : decode cX7_heedsOf 22 = .ok (.iconst 0, 1) := by decide +kernel
theorem dX7_heedsOf_23 : decode cX7_heedsOf 23 = .ok (.aload_n 0, 1) := by decide +kernel
theorem dX7_heedsOf_24 : decode cX7_heedsOf 24 = .ok (.iload_n 1, 1) := by decide +kernel
theorem dX7_heedsOf_25 : decode cX7_heedsOf 25 = .ok (.iconst 2, 1) := by decide +kernel
theorem dX7_heedsOf_26 : decode cX7_heedsOf 26 = .ok (.invokevirtual 79, 3) := by decide +kernel
theorem dX7_heedsOf_29 : decode cX7_heedsOf 29 = .ok (.iastore, 1) := by decide +kernel
theorem dX7_heedsOf_30 : decode cX7_heedsOf 30 = .ok (.aload_n 0, 1) := by decide +kernel
theorem dX7_heedsOf_31 : decode cX7_heedsOf 31 = .ok (.getfield 45, 3) := by decide +kernel
theorem dX7_heedsOf_34 : decode cX7_heedsOf 34 = .ok (.iconst 1, 1) := by decide +kernel
theorem dX7_heedsOf_35 : decode cX7_heedsOf 35 = .ok (.iload 4, 2) := by decide +kernel
theorem dX7_heedsOf_37 : decode cX7_heedsOf 37 = .ok (.iastore, 1) := by decide +kernel
theorem dX7_heedsOf_38 : decode cX7_heedsOf 38 = .ok (.aload_n 0, 1) := by decide +kernel
theorem dX7_heedsOf_39 : decode cX7_heedsOf 39 = .ok (.getfield 45, 3) := by decide +kernel
theorem dX7_heedsOf_42 : decode cX7_heedsOf 42 = .ok (.iconst 2, 1) := by decide +kernel
theorem dX7_heedsOf_43 : decode cX7_heedsOf 43 = .ok (.aload_n 0, 1) := by decide +kernel
theorem dX7_heedsOf_44 : decode cX7_heedsOf 44 = .ok (.iload_n 1, 1) := by decide +kernel
theorem dX7_heedsOf_45 : decode cX7_heedsOf 45 = .ok (.iconst 3, 1) := by decide +kernel
theorem dX7_heedsOf_46 : decode cX7_heedsOf 46 = .ok (.invokevirtual 79, 3) := by decide +kernel
theorem dX7_heedsOf_49 : decode cX7_heedsOf 49 = .ok (.iastore, 1) := by decide +kernel
theorem dX7_heedsOf_50 : decode cX7_heedsOf 50 = .ok (.aload_n 0, 1) := by decide +kernel
theorem dX7_heedsOf_51 : decode cX7_heedsOf 51 = .ok (.getfield 45, 3) := by decide +kernel
theorem dX7_heedsOf_54 : decode cX7_heedsOf 54 = .ok (.iconst 3, 1) := by decide +kernel
theorem dX7_heedsOf_55 : decode cX7_heedsOf 55 = .ok (.iload_n 3, 1) := by decide +kernel
theorem dX7_heedsOf_56 : decode cX7_heedsOf 56 = .ok (.iastore, 1) := by decide +kernel
theorem dX7_heedsOf_57 : decode cX7_heedsOf 57 = .ok (.iload 5, 2) := by decide +kernel
theorem dX7_heedsOf_59 : decode cX7_heedsOf 59 = .ok (.ifCond .ge 12, 3) := by decide +kernel
theorem dX7_heedsOf_62 : decode cX7_heedsOf 62 = .ok (.aload_n 0, 1) := by decide +kernel
theorem dX7_heedsOf_63 : decode cX7_heedsOf 63 = .ok (.iload_n 1, 1) := by decide +kernel
theorem dX7_heedsOf_64 : decode cX7_heedsOf 64 = .ok (.iconst 2, 1) := by decide +kernel
theorem dX7_heedsOf_65 : decode cX7_heedsOf 65 = .ok (.invokevirtual 79, 3) := by decide +kernel
theorem dX7_heedsOf_68 : decode cX7_heedsOf 68 = .ok (.goto 15, 3) := by decide +kernel
theorem dX7_heedsOf_71 : decode cX7_heedsOf 71 = .ok (.aload_n 0, 1) := by decide +kernel
theorem dX7_heedsOf_72 : decode cX7_heedsOf 72 = .ok (.iload 5, 2) := by decide +kernel
theorem dX7_heedsOf_74 : decode cX7_heedsOf 74 = .ok (.invokevirtual 105, 3) := by decide +kernel
theorem dX7_heedsOf_77 : decode cX7_heedsOf 77 = .ok (.iconst 0, 1) := by decide +kernel
theorem dX7_heedsOf_78 : decode cX7_heedsOf 78 = .ok (.bipush 99, 2) := by decide +kernel
theorem dX7_heedsOf_80 : decode cX7_heedsOf 80 = .ok (.invokestatic 108, 3) := by decide +kernel
theorem dX7_heedsOf_83 : decode cX7_heedsOf 83 = .ok (.istore 6, 2) := by decide +kernel
theorem dX7_heedsOf_85 : decode cX7_heedsOf 85 = .ok (.aload_n 0, 1) := by decide +kernel
theorem dX7_heedsOf_86 : decode cX7_heedsOf 86 = .ok (.iload_n 1, 1) := by decide +kernel
theorem dX7_heedsOf_87 : decode cX7_heedsOf 87 = .ok (.iconst 0, 1) := by decide +kernel
theorem dX7_heedsOf_88 : decode cX7_heedsOf 88 = .ok (.invokevirtual 79, 3) := by decide +kernel
theorem dX7_heedsOf_91 : decode cX7_heedsOf 91 = .ok (.tableswitch 55 1 5 #[33, 38, 40, 47, 52], 33) := by decide +kernel
theorem dX7_heedsOf_124 : decode cX7_heedsOf 124 = .ok (.iload 6, 2) := by decide +kernel
theorem dX7_heedsOf_126 : decode cX7_heedsOf 126 = .ok (.iconst 3, 1) := by decide +kernel
theorem dX7_heedsOf_127 : decode cX7_heedsOf 127 = .ok (.iadd, 1) := by decide +kernel
theorem dX7_heedsOf_128 : decode cX7_heedsOf 128 = .ok (.ireturn, 1) := by decide +kernel
theorem dX7_heedsOf_129 : decode cX7_heedsOf 129 = .ok (.iconst 0, 1) := by decide +kernel
theorem dX7_heedsOf_130 : decode cX7_heedsOf 130 = .ok (.ireturn, 1) := by decide +kernel
theorem dX7_heedsOf_131 : decode cX7_heedsOf 131 = .ok (.iload 6, 2) := by decide +kernel
theorem dX7_heedsOf_133 : decode cX7_heedsOf 133 = .ok (.iconst 3, 1) := by decide +kernel
theorem dX7_heedsOf_134 : decode cX7_heedsOf 134 = .ok (.iadd, 1) := by decide +kernel
theorem dX7_heedsOf_135 : decode cX7_heedsOf 135 = .ok (.iconst 2, 1) := by decide +kernel
theorem dX7_heedsOf_136 : decode cX7_heedsOf 136 = .ok (.idiv, 1) := by decide +kernel
theorem dX7_heedsOf_137 : decode cX7_heedsOf 137 = .ok (.ireturn, 1) := by decide +kernel
theorem dX7_heedsOf_138 : decode cX7_heedsOf 138 = .ok (.iconst 2, 1) := by decide +kernel
theorem dX7_heedsOf_139 : decode cX7_heedsOf 139 = .ok (.iload 4, 2) := by decide +kernel
theorem dX7_heedsOf_141 : decode cX7_heedsOf 141 = .ok (.imul, 1) := by decide +kernel
theorem dX7_heedsOf_142 : decode cX7_heedsOf 142 = .ok (.ireturn, 1) := by decide +kernel
theorem dX7_heedsOf_143 : decode cX7_heedsOf 143 = .ok (.bipush 99, 2) := by decide +kernel
theorem dX7_heedsOf_145 : decode cX7_heedsOf 145 = .ok (.ireturn, 1) := by decide +kernel
theorem dX7_heedsOf_146 : decode cX7_heedsOf 146 = .ok (.iload 6, 2) := by decide +kernel
theorem dX7_heedsOf_148 : decode cX7_heedsOf 148 = .ok (.ireturn, 1) := by decide +kernel
theorem dX7_doesHear_0 : decode cX7_doesHear 0 = .ok (.aload_n 0, 1) := by decide +kernel
theorem dX7_doesHear_1 : decode cX7_doesHear 1 = .ok (.iload_n 1, 1) := by decide +kernel
theorem dX7_doesHear_2 : decode cX7_doesHear 2 = .ok (.iconst 1, 1) := by decide +kernel
theorem dX7_doesHear_3 : decode cX7_doesHear 3 = .ok (.invokevirtual 79, 3) := by decide +kernel
theorem dX7_doesHear_6 : decode cX7_doesHear 6 = .ok (.aload_n 0, 1) := by decide +kernel
theorem dX7_doesHear_7 : decode cX7_doesHear 7 = .ok (.iload_n 2, 1) := by decide +kernel
theorem dX7_doesHear_8 : decode cX7_doesHear 8 = .ok (.iconst 1, 1) := by decide +kernel
theorem dX7_doesHear_9 : decode cX7_doesHear 9 = .ok (.invokevirtual 79, 3) := by decide +kernel
theorem dX7_doesHear_12 : decode cX7_doesHear 12 = .ok (.isub, 1) := by decide +kernel
theorem dX7_doesHear_13 : decode cX7_doesHear 13 = .ok (.invokestatic 112, 3) := by decide +kernel
theorem dX7_doesHear_16 : decode cX7_doesHear 16 = .ok (.istore_n 3, 1) := by decide +kernel
theorem dX7_doesHear_17 : decode cX7_doesHear 17 = .ok (.iload_n 1, 1) := by decide +kernel
theorem dX7_doesHear_18 : decode cX7_doesHear 18 = .ok (.iload_n 2, 1) := by decide +kernel
theorem dX7_doesHear_19 : decode cX7_doesHear 19 = .ok (.if_icmp .eq 18, 3) := by decide +kernel
theorem dX7_doesHear_22 : decode cX7_doesHear 22 = .ok (.iload_n 3, 1) := by decide +kernel
theorem dX7_doesHear_23 : decode cX7_doesHear 23 = .ok (.iconst 2, 1) := by decide +kernel
theorem dX7_doesHear_24 : decode cX7_doesHear 24 = .ok (.if_icmp .lt 9, 3) := by decide +kernel
theorem dX7_doesHear_27 : decode cX7_doesHear 27 = .ok (.iload_n 3, 1) := by decide +kernel
theorem dX7_doesHear_28 : decode cX7_doesHear 28 = .ok (.bipush 7, 2) := by decide +kernel
theorem dX7_doesHear_30 : decode cX7_doesHear 30 = .ok (.if_icmp .ne 7, 3) := by decide +kernel
theorem dX7_doesHear_33 : decode cX7_doesHear 33 = .ok (.iconst 1, 1) := by decide +kernel
theorem dX7_doesHear_34 : decode cX7_doesHear 34 = .ok (.goto 4, 3) := by decide +kernel
theorem dX7_doesHear_37 : decode cX7_doesHear 37 = .ok (.iconst 0, 1) := by decide +kernel
theorem dX7_doesHear_38 : decode cX7_doesHear 38 = .ok (.ireturn, 1) := by decide +kernel
theorem dX7_comes_0 : decode cX7_comes 0 = .ok (.aload_n 0, 1) := by decide +kernel
theorem dX7_comes_1 : decode cX7_comes 1 = .ok (.getfield 9, 3) := by decide +kernel
theorem dX7_comes_4 : decode cX7_comes 4 = .ok (.iconst 1, 1) := by decide +kernel
theorem dX7_comes_5 : decode cX7_comes 5 = .ok (.iaload, 1) := by decide +kernel
theorem dX7_comes_6 : decode cX7_comes 6 = .ok (.istore 4, 2) := by decide +kernel
theorem dX7_comes_8 : decode cX7_comes 8 = .ok (.aload_n 0, 1) := by decide +kernel
theorem dX7_comes_9 : decode cX7_comes 9 = .ok (.getfield 9, 3) := by decide +kernel
theorem dX7_comes_12 : decode cX7_comes 12 = .ok (.iconst 1, 1) := by decide +kernel
theorem dX7_comes_13 : decode cX7_comes 13 = .ok (.dup2, 1) := by decide +kernel
theorem dX7_comes_14 : decode cX7_comes 14 = .ok (.iaload, 1) := by decide +kernel
theorem dX7_comes_15 : decode cX7_comes 15 = .ok (.iconst 1, 1) := by decide +kernel
theorem dX7_comes_16 : decode cX7_comes 16 = .ok (.iadd, 1) := by decide +kernel
theorem dX7_comes_17 : decode cX7_comes 17 = .ok (.iastore, 1) := by decide +kernel
theorem dX7_comes_18 : decode cX7_comes 18 = .ok (.iconst 0, 1) := by decide +kernel
theorem dX7_comes_19 : decode cX7_comes 19 = .ok (.istore 5, 2) := by decide +kernel
theorem dX7_comes_21 : decode cX7_comes 21 = .ok (.iload 5, 2) := by decide +kernel
theorem dX7_comes_23 : decode cX7_comes 23 = .ok (.bipush 10, 2) := by decide +kernel
theorem dX7_comes_25 : decode cX7_comes 25 = .ok (.if_icmp .ge 18, 3) := by decide +kernel
theorem dX7_comes_28 : decode cX7_comes 28 = .ok (.aload_n 0, 1) := by decide +kernel
theorem dX7_comes_29 : decode cX7_comes 29 = .ok (.iload 4, 2) := by decide +kernel
theorem dX7_comes_31 : decode cX7_comes 31 = .ok (.iload 5, 2) := by decide +kernel
theorem dX7_comes_33 : decode cX7_comes 33 = .ok (.iconst 0, 1) := by decide +kernel
theorem dX7_comes_34 : decode cX7_comes 34 = .ok (.invokevirtual 115, 3) := by decide +kernel
theorem dX7_comes_37 : decode cX7_comes 37 = .ok (.iinc 5 1, 3) := by decide +kernel
theorem dX7_comes_40 : decode cX7_comes 40 = .ok (.goto (-19), 3) := by decide +kernel
theorem dX7_comes_43 : decode cX7_comes 43 = .ok (.aload_n 0, 1) := by decide +kernel
theorem dX7_comes_44 : decode cX7_comes 44 = .ok (.iload 4, 2) := by decide +kernel
theorem dX7_comes_46 : decode cX7_comes 46 = .ok (.iconst 0, 1) := by decide +kernel
theorem dX7_comes_47 : decode cX7_comes 47 = .ok (.iload_n 1, 1) := by decide +kernel
theorem dX7_comes_48 : decode cX7_comes 48 = .ok (.invokevirtual 115, 3) := by decide +kernel
theorem dX7_comes_51 : decode cX7_comes 51 = .ok (.aload_n 0, 1) := by decide +kernel
theorem dX7_comes_52 : decode cX7_comes 52 = .ok (.iload 4, 2) := by decide +kernel
theorem dX7_comes_54 : decode cX7_comes 54 = .ok (.iconst 1, 1) := by decide +kernel
theorem dX7_comes_55 : decode cX7_comes 55 = .ok (.iload_n 2, 1) := by decide +kernel
theorem dX7_comes_56 : decode cX7_comes 56 = .ok (.invokevirtual 115, 3) := by decide +kernel
theorem dX7_comes_59 : decode cX7_comes 59 = .ok (.aload_n 0, 1) := by decide +kernel
theorem dX7_comes_60 : decode cX7_comes 60 = .ok (.iload 4, 2) := by decide +kernel
theorem dX7_comes_62 : decode cX7_comes 62 = .ok (.iconst 2, 1) := by decide +kernel
theorem dX7_comes_63 : decode cX7_comes 63 = .ok (.iload_n 3, 1) := by decide +kernel
theorem dX7_comes_64 : decode cX7_comes 64 = .ok (.invokevirtual 115, 3) := by decide +kernel
theorem dX7_comes_67 : decode cX7_comes 67 = .ok (.iload 4, 2) := by decide +kernel
theorem dX7_comes_69 : decode cX7_comes 69 = .ok (.ireturn, 1) := by decide +kernel
theorem dX7_person_0 : decode cX7_person 0 = .ok (.iload_n 1, 1) := by decide +kernel
theorem dX7_person_1 : decode cX7_person 1 = .ok (.iconst 0, 1) := by decide +kernel
theorem dX7_person_2 : decode cX7_person 2 = .ok (.iconst 5, 1) := by decide +kernel
theorem dX7_person_3 : decode cX7_person 3 = .ok (.invokestatic 75, 3) := by decide +kernel
theorem dX7_person_6 : decode cX7_person 6 = .ok (.ifCond .eq 23, 3) := by decide +kernel
theorem dX7_person_9 : decode cX7_person 9 = .ok (.iload_n 2, 1) := by decide +kernel
theorem dX7_person_10 : decode cX7_person 10 = .ok (.iconst 0, 1) := by decide +kernel
theorem dX7_person_11 : decode cX7_person 11 = .ok (.bipush 7, 2) := by decide +kernel
theorem dX7_person_13 : decode cX7_person 13 = .ok (.invokestatic 75, 3) := by decide +kernel
theorem dX7_person_16 : decode cX7_person 16 = .ok (.ifCond .eq 13, 3) := by decide +kernel
theorem dX7_person_19 : decode cX7_person 19 = .ok (.iload_n 3, 1) := by decide +kernel
theorem dX7_person_20 : decode cX7_person 20 = .ok (.iconst 0, 1) := by decide +kernel
theorem dX7_person_21 : decode cX7_person 21 = .ok (.bipush 9, 2) := by decide +kernel
theorem dX7_person_23 : decode cX7_person 23 = .ok (.invokestatic 75, 3) := by decide +kernel
theorem dX7_person_26 : decode cX7_person 26 = .ok (.ifCond .ne 6, 3) := by decide +kernel
theorem dX7_person_29 : decode cX7_person 29 = .ok (.ldc 119, 2) := by decide +kernel
theorem dX7_person_31 : decode cX7_person 31 = .ok (.ireturn, 1) := by decide +kernel
theorem dX7_person_32 : decode cX7_person 32 = .ok (.aload_n 0, 1) := by decide +kernel
theorem dX7_person_33 : decode cX7_person 33 = .ok (.getfield 9, 3) := by decide +kernel
theorem dX7_person_36 : decode cX7_person 36 = .ok (.iconst 1, 1) := by decide +kernel
theorem dX7_person_37 : decode cX7_person 37 = .ok (.iaload, 1) := by decide +kernel
theorem dX7_person_38 : decode cX7_person 38 = .ok (.bipush 8, 2) := by decide +kernel
theorem dX7_person_40 : decode cX7_person 40 = .ok (.if_icmp .ne 8, 3) := by decide +kernel
theorem dX7_person_43 : decode cX7_person 43 = .ok (.ldc 120, 2) := by decide +kernel
theorem dX7_person_45 : decode cX7_person 45 = .ok (.goto 10, 3) := by decide +kernel
theorem dX7_person_48 : decode cX7_person 48 = .ok (.aload_n 0, 1) := by decide +kernel
theorem dX7_person_49 : decode cX7_person 49 = .ok (.iload_n 1, 1) := by decide +kernel
theorem dX7_person_50 : decode cX7_person 50 = .ok (.iload_n 2, 1) := by decide +kernel
theorem dX7_person_51 : decode cX7_person 51 = .ok (.iload_n 3, 1) := by decide +kernel
theorem dX7_person_52 : decode cX7_person 52 = .ok (.invokevirtual 121, 3) := by decide +kernel
theorem dX7_person_55 : decode cX7_person 55 = .ok (.ireturn, 1) := by decide +kernel
theorem dX7_fieldsOf_0 : decode cX7_fieldsOf 0 = .ok (.iconst 0, 1) := by decide +kernel
theorem dX7_fieldsOf_1 : decode cX7_fieldsOf 1 = .ok (.istore_n 2, 1) := by decide +kernel
theorem dX7_fieldsOf_2 : decode cX7_fieldsOf 2 = .ok (.iconst 0, 1) := by decide +kernel
theorem dX7_fieldsOf_3 : decode cX7_fieldsOf 3 = .ok (.istore_n 3, 1) := by decide +kernel
theorem dX7_fieldsOf_4 : decode cX7_fieldsOf 4 = .ok (.iload_n 3, 1) := by decide +kernel
theorem dX7_fieldsOf_5 : decode cX7_fieldsOf 5 = .ok (.bipush 6, 2) := by decide +kernel
theorem dX7_fieldsOf_7 : decode cX7_fieldsOf 7 = .ok (.if_icmp .ge 28, 3) := by decide +kernel
theorem dX7_fieldsOf_10 : decode cX7_fieldsOf 10 = .ok (.iload_n 2, 1) := by decide +kernel
theorem dX7_fieldsOf_11 : decode cX7_fieldsOf 11 = .ok (.aload_n 0, 1) := by decide +kernel
theorem dX7_fieldsOf_12 : decode cX7_fieldsOf 12 = .ok (.iload_n 1, 1) := by decide +kernel
theorem dX7_fieldsOf_13 : decode cX7_fieldsOf 13 = .ok (.iload_n 3, 1) := by decide +kernel
theorem dX7_fieldsOf_14 : decode cX7_fieldsOf 14 = .ok (.invokevirtual 83, 3) := by decide +kernel
theorem dX7_fieldsOf_17 : decode cX7_fieldsOf 17 = .ok (.ifCond .ne 7, 3) := by decide +kernel
theorem dX7_fieldsOf_20 : decode cX7_fieldsOf 20 = .ok (.iconst 0, 1) := by decide +kernel
theorem dX7_fieldsOf_21 : decode cX7_fieldsOf 21 = .ok (.goto 6, 3) := by decide +kernel
theorem dX7_fieldsOf_24 : decode cX7_fieldsOf 24 = .ok (.iconst 1, 1) := by decide +kernel
theorem dX7_fieldsOf_25 : decode cX7_fieldsOf 25 = .ok (.iload_n 3, 1) := by decide +kernel
theorem dX7_fieldsOf_26 : decode cX7_fieldsOf 26 = .ok (.ishl, 1) := by decide +kernel
theorem dX7_fieldsOf_27 : decode cX7_fieldsOf 27 = .ok (.ior, 1) := by decide +kernel
theorem dX7_fieldsOf_28 : decode cX7_fieldsOf 28 = .ok (.istore_n 2, 1) := by decide +kernel
theorem dX7_fieldsOf_29 : decode cX7_fieldsOf 29 = .ok (.iinc 3 1, 3) := by decide +kernel
theorem dX7_fieldsOf_32 : decode cX7_fieldsOf 32 = .ok (.goto (-28), 3) := by decide +kernel
theorem dX7_fieldsOf_35 : decode cX7_fieldsOf 35 = .ok (.iload_n 2, 1) := by decide +kernel
theorem dX7_fieldsOf_36 : decode cX7_fieldsOf 36 = .ok (.ireturn, 1) := by decide +kernel
theorem dX7_hearers_0 : decode cX7_hearers 0 = .ok (.iconst 0, 1) := by decide +kernel
theorem dX7_hearers_1 : decode cX7_hearers 1 = .ok (.istore_n 2, 1) := by decide +kernel
theorem dX7_hearers_2 : decode cX7_hearers 2 = .ok (.iconst 0, 1) := by decide +kernel
theorem dX7_hearers_3 : decode cX7_hearers 3 = .ok (.istore_n 3, 1) := by decide +kernel
theorem dX7_hearers_4 : decode cX7_hearers 4 = .ok (.iload_n 3, 1) := by decide +kernel
theorem dX7_hearers_5 : decode cX7_hearers 5 = .ok (.aload_n 0, 1) := by decide +kernel
theorem dX7_hearers_6 : decode cX7_hearers 6 = .ok (.getfield 9, 3) := by decide +kernel
theorem dX7_hearers_9 : decode cX7_hearers 9 = .ok (.iconst 1, 1) := by decide +kernel
theorem dX7_hearers_10 : decode cX7_hearers 10 = .ok (.iaload, 1) := by decide +kernel
theorem dX7_hearers_11 : decode cX7_hearers 11 = .ok (.if_icmp .ge 28, 3) := by decide +kernel
theorem dX7_hearers_14 : decode cX7_hearers 14 = .ok (.iload_n 2, 1) := by decide +kernel
theorem dX7_hearers_15 : decode cX7_hearers 15 = .ok (.aload_n 0, 1) := by decide +kernel
theorem dX7_hearers_16 : decode cX7_hearers 16 = .ok (.iload_n 3, 1) := by decide +kernel
theorem dX7_hearers_17 : decode cX7_hearers 17 = .ok (.iload_n 1, 1) := by decide +kernel
theorem dX7_hearers_18 : decode cX7_hearers 18 = .ok (.invokevirtual 124, 3) := by decide +kernel
theorem dX7_hearers_21 : decode cX7_hearers 21 = .ok (.ifCond .eq 9, 3) := by decide +kernel
theorem dX7_hearers_24 : decode cX7_hearers 24 = .ok (.iconst 1, 1) := by decide +kernel
theorem dX7_hearers_25 : decode cX7_hearers 25 = .ok (.iload_n 3, 1) := by decide +kernel
theorem dX7_hearers_26 : decode cX7_hearers 26 = .ok (.ishl, 1) := by decide +kernel
theorem dX7_hearers_27 : decode cX7_hearers 27 = .ok (.goto 4, 3) := by decide +kernel
theorem dX7_hearers_30 : decode cX7_hearers 30 = .ok (.iconst 0, 1) := by decide +kernel
theorem dX7_hearers_31 : decode cX7_hearers 31 = .ok (.ior, 1) := by decide +kernel
theorem dX7_hearers_32 : decode cX7_hearers 32 = .ok (.istore_n 2, 1) := by decide +kernel
theorem dX7_hearers_33 : decode cX7_hearers 33 = .ok (.iinc 3 1, 3) := by decide +kernel
theorem dX7_hearers_36 : decode cX7_hearers 36 = .ok (.goto (-32), 3) := by decide +kernel
theorem dX7_hearers_39 : decode cX7_hearers 39 = .ok (.iload_n 2, 1) := by decide +kernel
theorem dX7_hearers_40 : decode cX7_hearers 40 = .ok (.ireturn, 1) := by decide +kernel
theorem dX7_told_0 : decode cX7_told 0 = .ok (.aload_n 0, 1) := by decide +kernel
theorem dX7_told_1 : decode cX7_told 1 = .ok (.iload_n 1, 1) := by decide +kernel
theorem dX7_told_2 : decode cX7_told 2 = .ok (.invokevirtual 128, 3) := by decide +kernel
theorem dX7_told_5 : decode cX7_told 5 = .ok (.ifCond .eq 13, 3) := by decide +kernel
theorem dX7_told_8 : decode cX7_told 8 = .ok (.iload_n 2, 1) := by decide +kernel
theorem dX7_told_9 : decode cX7_told 9 = .ok (.iconst 0, 1) := by decide +kernel
theorem dX7_told_10 : decode cX7_told 10 = .ok (.bipush 6, 2) := by decide +kernel
theorem dX7_told_12 : decode cX7_told 12 = .ok (.invokestatic 75, 3) := by decide +kernel
theorem dX7_told_15 : decode cX7_told 15 = .ok (.ifCond .ne 6, 3) := by decide +kernel
theorem dX7_told_18 : decode cX7_told 18 = .ok (.ldc 119, 2) := by decide +kernel
theorem dX7_told_20 : decode cX7_told 20 = .ok (.ireturn, 1) := by decide +kernel
theorem dX7_told_21 : decode cX7_told 21 = .ok (.iload_n 2, 1) := by decide +kernel
theorem dX7_told_22 : decode cX7_told 22 = .ok (.iconst 4, 1) := by decide +kernel
theorem dX7_told_23 : decode cX7_told 23 = .ok (.if_icmp .ge 12, 3) := by decide +kernel
theorem dX7_told_26 : decode cX7_told 26 = .ok (.aload_n 0, 1) := by decide +kernel
theorem dX7_told_27 : decode cX7_told 27 = .ok (.iload_n 1, 1) := by decide +kernel
theorem dX7_told_28 : decode cX7_told 28 = .ok (.iload_n 2, 1) := by decide +kernel
theorem dX7_told_29 : decode cX7_told 29 = .ok (.invokevirtual 79, 3) := by decide +kernel
theorem dX7_told_32 : decode cX7_told 32 = .ok (.goto 34, 3) := by decide +kernel
theorem dX7_told_35 : decode cX7_told 35 = .ok (.iload_n 2, 1) := by decide +kernel
theorem dX7_told_36 : decode cX7_told 36 = .ok (.iconst 4, 1) := by decide +kernel
theorem dX7_told_37 : decode cX7_told 37 = .ok (.if_icmp .ne 11, 3) := by decide +kernel
theorem dX7_told_40 : decode cX7_told 40 = .ok (.aload_n 0, 1) := by decide +kernel
theorem dX7_told_41 : decode cX7_told 41 = .ok (.iload_n 1, 1) := by decide +kernel
theorem dX7_told_42 : decode cX7_told 42 = .ok (.invokevirtual 86, 3) := by decide +kernel
theorem dX7_told_45 : decode cX7_told 45 = .ok (.goto 21, 3) := by decide +kernel
theorem dX7_told_48 : decode cX7_told 48 = .ok (.iload_n 2, 1) := by decide +kernel
theorem dX7_told_49 : decode cX7_told 49 = .ok (.iconst 5, 1) := by decide +kernel
theorem dX7_told_50 : decode cX7_told 50 = .ok (.if_icmp .ne 11, 3) := by decide +kernel
theorem dX7_told_53 : decode cX7_told 53 = .ok (.aload_n 0, 1) := by decide +kernel
theorem dX7_told_54 : decode cX7_told 54 = .ok (.iload_n 1, 1) := by decide +kernel
theorem dX7_told_55 : decode cX7_told 55 = .ok (.invokevirtual 132, 3) := by decide +kernel
theorem dX7_told_58 : decode cX7_told 58 = .ok (.goto 8, 3) := by decide +kernel
theorem dX7_told_61 : decode cX7_told 61 = .ok (.aload_n 0, 1) := by decide +kernel
theorem dX7_told_62 : decode cX7_told 62 = .ok (.iload_n 1, 1) := by decide +kernel
theorem dX7_told_63 : decode cX7_told 63 = .ok (.invokevirtual 135, 3) := by decide +kernel
theorem dX7_told_66 : decode cX7_told 66 = .ok (.ireturn, 1) := by decide +kernel
theorem dX7_isUnder_0 : decode cX7_isUnder 0 = .ok (.iload_n 1, 1) := by decide +kernel
theorem dX7_isUnder_1 : decode cX7_isUnder 1 = .ok (.ifCond .eq 28, 3) := by decide +kernel
theorem dX7_isUnder_4 : decode cX7_isUnder 4 = .ok (.iload_n 0, 1) := by decide +kernel
theorem dX7_isUnder_5 : decode cX7_isUnder 5 = .ok (.iload_n 1, 1) := by decide +kernel
theorem dX7_isUnder_6 : decode cX7_isUnder 6 = .ok (.if_icmp .eq 23, 3) := by decide +kernel
theorem dX7_isUnder_9 : decode cX7_isUnder 9 = .ok (.iload_n 1, 1) := by decide +kernel
theorem dX7_isUnder_10 : decode cX7_isUnder 10 = .ok (.iconst 1, 1) := by decide +kernel
theorem dX7_isUnder_11 : decode cX7_isUnder 11 = .ok (.if_icmp .ne 8, 3) := by decide +kernel
theorem dX7_isUnder_14 : decode cX7_isUnder 14 = .ok (.iload_n 0, 1) := by decide +kernel
theorem dX7_isUnder_15 : decode cX7_isUnder 15 = .ok (.iconst 3, 1) := by decide +kernel
theorem dX7_isUnder_16 : decode cX7_isUnder 16 = .ok (.if_icmp .eq 13, 3) := by decide +kernel
theorem dX7_isUnder_19 : decode cX7_isUnder 19 = .ok (.iload_n 1, 1) := by decide +kernel
theorem dX7_isUnder_20 : decode cX7_isUnder 20 = .ok (.iconst 2, 1) := by decide +kernel
theorem dX7_isUnder_21 : decode cX7_isUnder 21 = .ok (.if_icmp .ne 12, 3) := by decide +kernel
theorem dX7_isUnder_24 : decode cX7_isUnder 24 = .ok (.iload_n 0, 1) := by decide +kernel
theorem dX7_isUnder_25 : decode cX7_isUnder 25 = .ok (.iconst 4, 1) := by decide +kernel
theorem dX7_isUnder_26 : decode cX7_isUnder 26 = .ok (.if_icmp .ne 7, 3) := by decide +kernel
theorem dX7_isUnder_29 : decode cX7_isUnder 29 = .ok (.iconst 1, 1) := by decide +kernel
theorem dX7_isUnder_30 : decode cX7_isUnder 30 = .ok (.goto 4, 3) := by decide +kernel
theorem dX7_isUnder_33 : decode cX7_isUnder 33 = .ok (.iconst 0, 1) := by decide +kernel
theorem dX7_isUnder_34 : decode cX7_isUnder 34 = .ok (.ireturn, 1) := by decide +kernel
theorem dX7_as_0 : decode cX7_as 0 = .ok (.aload_n 0, 1) := by decide +kernel
theorem dX7_as_1 : decode cX7_as 1 = .ok (.iload_n 1, 1) := by decide +kernel
theorem dX7_as_2 : decode cX7_as 2 = .ok (.invokevirtual 128, 3) := by decide +kernel
theorem dX7_as_5 : decode cX7_as 5 = .ok (.ifCond .eq 12, 3) := by decide +kernel
theorem dX7_as_8 : decode cX7_as 8 = .ok (.iload_n 2, 1) := by decide +kernel
theorem dX7_as_9 : decode cX7_as 9 = .ok (.iconst 0, 1) := by decide +kernel
theorem dX7_as_10 : decode cX7_as 10 = .ok (.iconst 5, 1) := by decide +kernel
theorem dX7_as_11 : decode cX7_as 11 = .ok (.invokestatic 75, 3) := by decide +kernel
theorem dX7_as_14 : decode cX7_as 14 = .ok (.ifCond .ne 6, 3) := by decide +kernel
theorem dX7_as_17 : decode cX7_as 17 = .ok (.ldc 119, 2) := by decide +kernel
theorem dX7_as_19 : decode cX7_as 19 = .ok (.ireturn, 1) := by decide +kernel
theorem dX7_as_20 : decode cX7_as 20 = .ok (.aload_n 0, 1) := by decide +kernel
theorem dX7_as_21 : decode cX7_as 21 = .ok (.iload_n 1, 1) := by decide +kernel
theorem dX7_as_22 : decode cX7_as 22 = .ok (.iconst 0, 1) := by decide +kernel
theorem dX7_as_23 : decode cX7_as 23 = .ok (.invokevirtual 79, 3) := by decide +kernel
theorem dX7_as_26 : decode cX7_as 26 = .ok (.iload_n 2, 1) := by decide +kernel
theorem dX7_as_27 : decode cX7_as 27 = .ok (.invokestatic 138, 3) := by decide +kernel
theorem dX7_as_30 : decode cX7_as 30 = .ok (.ifCond .eq 12, 3) := by decide +kernel
theorem dX7_as_33 : decode cX7_as 33 = .ok (.aload_n 0, 1) := by decide +kernel
theorem dX7_as_34 : decode cX7_as 34 = .ok (.iload_n 1, 1) := by decide +kernel
theorem dX7_as_35 : decode cX7_as 35 = .ok (.iconst 3, 1) := by decide +kernel
theorem dX7_as_36 : decode cX7_as 36 = .ok (.invokevirtual 79, 3) := by decide +kernel
theorem dX7_as_39 : decode cX7_as 39 = .ok (.goto 5, 3) := by decide +kernel
theorem dX7_as_42 : decode cX7_as 42 = .ok (.ldc 141, 2) := by decide +kernel
theorem dX7_as_44 : decode cX7_as 44 = .ok (.ireturn, 1) := by decide +kernel
theorem dX7_turns_0 : decode cX7_turns 0 = .ok (.aload_n 0, 1) := by decide +kernel
theorem dX7_turns_1 : decode cX7_turns 1 = .ok (.iload_n 1, 1) := by decide +kernel
theorem dX7_turns_2 : decode cX7_turns 2 = .ok (.invokevirtual 128, 3) := by decide +kernel
theorem dX7_turns_5 : decode cX7_turns 5 = .ok (.ifCond .eq 27, 3) := by decide +kernel
theorem dX7_turns_8 : decode cX7_turns 8 = .ok (.iload_n 2, 1) := by decide +kernel
theorem dX7_turns_9 : decode cX7_turns 9 = .ok (.iconst 0, 1) := by decide +kernel
theorem dX7_turns_10 : decode cX7_turns 10 = .ok (.iconst 5, 1) := by decide +kernel
theorem dX7_turns_11 : decode cX7_turns 11 = .ok (.invokestatic 75, 3) := by decide +kernel
theorem dX7_turns_14 : decode cX7_turns 14 = .ok (.ifCond .eq 18, 3) := by decide +kernel
theorem dX7_turns_17 : decode cX7_turns 17 = .ok (.aload_n 0, 1) := by decide +kernel
theorem dX7_turns_18 : decode cX7_turns 18 = .ok (.bipush 19, 2) := by decide +kernel
theorem dX7_turns_20 : decode cX7_turns 20 = .ok (.bipush 10, 2) := by decide +kernel
theorem dX7_turns_22 : decode cX7_turns 22 = .ok (.iload_n 1, 1) := by decide +kernel
theorem dX7_turns_23 : decode cX7_turns 23 = .ok (.imul, 1) := by decide +kernel
theorem dX7_turns_24 : decode cX7_turns 24 = .ok (.iadd, 1) := by decide +kernel
theorem dX7_turns_25 : decode cX7_turns 25 = .ok (.iload_n 2, 1) := by decide +kernel
theorem dX7_turns_26 : decode cX7_turns 26 = .ok (.invokevirtual 142, 3) := by decide +kernel
theorem dX7_turns_29 : decode cX7_turns 29 = .ok (.goto 5, 3) := by decide +kernel
theorem dX7_turns_32 : decode cX7_turns 32 = .ok (.ldc 119, 2) := by decide +kernel
theorem dX7_turns_34 : decode cX7_turns 34 = .ok (.ireturn, 1) := by decide +kernel
theorem dX7_set_0 : decode cX7_set 0 = .ok (.iload_n 2, 1) := by decide +kernel
theorem dX7_set_1 : decode cX7_set 1 = .ok (.iconst 1, 1) := by decide +kernel
theorem dX7_set_2 : decode cX7_set 2 = .ok (.if_icmp .ne 13, 3) := by decide +kernel
theorem dX7_set_5 : decode cX7_set 5 = .ok (.iload_n 3, 1) := by decide +kernel
theorem dX7_set_6 : decode cX7_set 6 = .ok (.iconst 0, 1) := by decide +kernel
theorem dX7_set_7 : decode cX7_set 7 = .ok (.bipush 7, 2) := by decide +kernel
theorem dX7_set_9 : decode cX7_set 9 = .ok (.invokestatic 75, 3) := by decide +kernel
theorem dX7_set_12 : decode cX7_set 12 = .ok (.ifCond .ne 33, 3) := by decide +kernel
theorem dX7_set_15 : decode cX7_set 15 = .ok (.iload_n 2, 1) := by decide +kernel
theorem dX7_set_16 : decode cX7_set 16 = .ok (.iconst 2, 1) := by decide +kernel
theorem dX7_set_17 : decode cX7_set 17 = .ok (.if_icmp .ne 13, 3) := by decide +kernel
theorem dX7_set_20 : decode cX7_set 20 = .ok (.iload_n 3, 1) := by decide +kernel
theorem dX7_set_21 : decode cX7_set 21 = .ok (.iconst 0, 1) := by decide +kernel
theorem dX7_set_22 : decode cX7_set 22 = .ok (.bipush 9, 2) := by decide +kernel
theorem dX7_set_24 : decode cX7_set 24 = .ok (.invokestatic 75, 3) := by decide +kernel
theorem dX7_set_27 : decode cX7_set 27 = .ok (.ifCond .ne 18, 3) := by decide +kernel
theorem dX7_set_30 : decode cX7_set 30 = .ok (.iload_n 2, 1) := by decide +kernel
theorem dX7_set_31 : decode cX7_set 31 = .ok (.iconst 3, 1) := by decide +kernel
theorem dX7_set_32 : decode cX7_set 32 = .ok (.if_icmp .ne 17, 3) := by decide +kernel
theorem dX7_set_35 : decode cX7_set 35 = .ok (.iload_n 3, 1) := by decide +kernel
theorem dX7_set_36 : decode cX7_set 36 = .ok (.iconst 0, 1) := by decide +kernel
theorem dX7_set_37 : decode cX7_set 37 = .ok (.bipush 99, 2) := by decide +kernel
theorem dX7_set_39 : decode cX7_set 39 = .ok (.invokestatic 75, 3) := by decide +kernel
theorem dX7_set_42 : decode cX7_set 42 = .ok (.ifCond .eq 7, 3) := by decide +kernel
theorem dX7_set_45 : decode cX7_set 45 = .ok (.iconst 1, 1) := by decide +kernel
theorem dX7_set_46 : decode cX7_set 46 = .ok (.goto 4, 3) := by decide +kernel
theorem dX7_set_49 : decode cX7_set 49 = .ok (.iconst 0, 1) := by decide +kernel
theorem dX7_set_50 : decode cX7_set 50 = .ok (.istore 4, 2) := by decide +kernel
theorem dX7_set_52 : decode cX7_set 52 = .ok (.aload_n 0, 1) := by decide +kernel
theorem dX7_set_53 : decode cX7_set 53 = .ok (.iload_n 1, 1) := by decide +kernel
theorem dX7_set_54 : decode cX7_set 54 = .ok (.invokevirtual 128, 3) := by decide +kernel
theorem dX7_set_57 : decode cX7_set 57 = .ok (.ifCond .eq 25, 3) := by decide +kernel
theorem dX7_set_60 : decode cX7_set 60 = .ok (.iload 4, 2) := by decide +kernel
theorem dX7_set_62 : decode cX7_set 62 = .ok (.ifCond .eq 20, 3) := by decide +kernel
theorem dX7_set_65 : decode cX7_set 65 = .ok (.aload_n 0, 1) := by decide +kernel
theorem dX7_set_66 : decode cX7_set 66 = .ok (.bipush 19, 2) := by decide +kernel
theorem dX7_set_68 : decode cX7_set 68 = .ok (.bipush 10, 2) := by decide +kernel
theorem dX7_set_70 : decode cX7_set 70 = .ok (.iload_n 1, 1) := by decide +kernel
theorem dX7_set_71 : decode cX7_set 71 = .ok (.imul, 1) := by decide +kernel
theorem dX7_set_72 : decode cX7_set 72 = .ok (.iadd, 1) := by decide +kernel
theorem dX7_set_73 : decode cX7_set 73 = .ok (.iload_n 2, 1) := by decide +kernel
theorem dX7_set_74 : decode cX7_set 74 = .ok (.iadd, 1) := by decide +kernel
theorem dX7_set_75 : decode cX7_set 75 = .ok (.iload_n 3, 1) := by decide +kernel
theorem dX7_set_76 : decode cX7_set 76 = .ok (.invokevirtual 142, 3) := by decide +kernel
theorem dX7_set_79 : decode cX7_set 79 = .ok (.goto 5, 3) := by decide +kernel
theorem dX7_set_82 : decode cX7_set 82 = .ok (.ldc 119, 2) := by decide +kernel
theorem dX7_set_84 : decode cX7_set 84 = .ok (.ireturn, 1) := by decide +kernel
theorem dX7_thought_0 : decode cX7_thought 0 = .ok (.aload_n 0, 1) := by decide +kernel
theorem dX7_thought_1 : decode cX7_thought 1 = .ok (.iload_n 1, 1) := by decide +kernel
theorem dX7_thought_2 : decode cX7_thought 2 = .ok (.invokevirtual 128, 3) := by decide +kernel
theorem dX7_thought_5 : decode cX7_thought 5 = .ok (.ifCond .eq 19, 3) := by decide +kernel
theorem dX7_thought_8 : decode cX7_thought 8 = .ok (.iload_n 2, 1) := by decide +kernel
theorem dX7_thought_9 : decode cX7_thought 9 = .ok (.invokestatic 145, 3) := by decide +kernel
theorem dX7_thought_12 : decode cX7_thought 12 = .ok (.ifCond .eq 12, 3) := by decide +kernel
theorem dX7_thought_15 : decode cX7_thought 15 = .ok (.aload_n 0, 1) := by decide +kernel
theorem dX7_thought_16 : decode cX7_thought 16 = .ok (.iload_n 1, 1) := by decide +kernel
theorem dX7_thought_17 : decode cX7_thought 17 = .ok (.iload_n 2, 1) := by decide +kernel
theorem dX7_thought_18 : decode cX7_thought 18 = .ok (.invokevirtual 83, 3) := by decide +kernel
theorem dX7_thought_21 : decode cX7_thought 21 = .ok (.goto 5, 3) := by decide +kernel
theorem dX7_thought_24 : decode cX7_thought 24 = .ok (.ldc 119, 2) := by decide +kernel
theorem dX7_thought_26 : decode cX7_thought 26 = .ok (.ireturn, 1) := by decide +kernel
theorem dX7_lets_0 : decode cX7_lets 0 = .ok (.aload_n 0, 1) := by decide +kernel
theorem dX7_lets_1 : decode cX7_lets 1 = .ok (.iload_n 1, 1) := by decide +kernel
theorem dX7_lets_2 : decode cX7_lets 2 = .ok (.invokevirtual 128, 3) := by decide +kernel
theorem dX7_lets_5 : decode cX7_lets 5 = .ok (.ifCond .eq 39, 3) := by decide +kernel
theorem dX7_lets_8 : decode cX7_lets 8 = .ok (.iload_n 2, 1) := by decide +kernel
theorem dX7_lets_9 : decode cX7_lets 9 = .ok (.invokestatic 145, 3) := by decide +kernel
theorem dX7_lets_12 : decode cX7_lets 12 = .ok (.ifCond .eq 32, 3) := by decide +kernel
theorem dX7_lets_15 : decode cX7_lets 15 = .ok (.iload_n 3, 1) := by decide +kernel
theorem dX7_lets_16 : decode cX7_lets 16 = .ok (.iconst 0, 1) := by decide +kernel
theorem dX7_lets_17 : decode cX7_lets 17 = .ok (.bipush 9, 2) := by decide +kernel
theorem dX7_lets_19 : decode cX7_lets 19 = .ok (.invokestatic 75, 3) := by decide +kernel
theorem dX7_lets_22 : decode cX7_lets 22 = .ok (.ifCond .eq 22, 3) := by decide +kernel
theorem dX7_lets_25 : decode cX7_lets 25 = .ok (.aload_n 0, 1) := by decide +kernel
theorem dX7_lets_26 : decode cX7_lets 26 = .ok (.bipush 19, 2) := by decide +kernel
theorem dX7_lets_28 : decode cX7_lets 28 = .ok (.bipush 10, 2) := by decide +kernel
theorem dX7_lets_30 : decode cX7_lets 30 = .ok (.iload_n 1, 1) := by decide +kernel
theorem dX7_lets_31 : decode cX7_lets 31 = .ok (.imul, 1) := by decide +kernel
theorem dX7_lets_32 : decode cX7_lets 32 = .ok (.iadd, 1) := by decide +kernel
theorem dX7_lets_33 : decode cX7_lets 33 = .ok (.iconst 4, 1) := by decide +kernel
theorem dX7_lets_34 : decode cX7_lets 34 = .ok (.iadd, 1) := by decide +kernel
theorem dX7_lets_35 : decode cX7_lets 35 = .ok (.iload_n 2, 1) := by decide +kernel
theorem dX7_lets_36 : decode cX7_lets 36 = .ok (.iadd, 1) := by decide +kernel
theorem dX7_lets_37 : decode cX7_lets 37 = .ok (.iload_n 3, 1) := by decide +kernel
theorem dX7_lets_38 : decode cX7_lets 38 = .ok (.invokevirtual 142, 3) := by decide +kernel
theorem dX7_lets_41 : decode cX7_lets 41 = .ok (.goto 5, 3) := by decide +kernel
theorem dX7_lets_44 : decode cX7_lets 44 = .ok (.ldc 119, 2) := by decide +kernel
theorem dX7_lets_46 : decode cX7_lets 46 = .ok (.ireturn, 1) := by decide +kernel
theorem dX7_says_0 : decode cX7_says 0 = .ok (.aload_n 0, 1) := by decide +kernel
theorem dX7_says_1 : decode cX7_says 1 = .ok (.iload_n 1, 1) := by decide +kernel
theorem dX7_says_2 : decode cX7_says 2 = .ok (.invokevirtual 128, 3) := by decide +kernel
theorem dX7_says_5 : decode cX7_says 5 = .ok (.ifCond .eq 19, 3) := by decide +kernel
theorem dX7_says_8 : decode cX7_says 8 = .ok (.iload_n 2, 1) := by decide +kernel
theorem dX7_says_9 : decode cX7_says 9 = .ok (.invokestatic 145, 3) := by decide +kernel
theorem dX7_says_12 : decode cX7_says 12 = .ok (.ifCond .eq 12, 3) := by decide +kernel
theorem dX7_says_15 : decode cX7_says 15 = .ok (.aload_n 0, 1) := by decide +kernel
theorem dX7_says_16 : decode cX7_says 16 = .ok (.iload_n 1, 1) := by decide +kernel
theorem dX7_says_17 : decode cX7_says 17 = .ok (.iload_n 2, 1) := by decide +kernel
theorem dX7_says_18 : decode cX7_says 18 = .ok (.invokevirtual 148, 3) := by decide +kernel
theorem dX7_says_21 : decode cX7_says 21 = .ok (.goto 5, 3) := by decide +kernel
theorem dX7_says_24 : decode cX7_says 24 = .ok (.ldc 119, 2) := by decide +kernel
theorem dX7_says_26 : decode cX7_says 26 = .ok (.ireturn, 1) := by decide +kernel
theorem dX7_heeds_0 : decode cX7_heeds 0 = .ok (.aload_n 0, 1) := by decide +kernel
theorem dX7_heeds_1 : decode cX7_heeds 1 = .ok (.iload_n 1, 1) := by decide +kernel
theorem dX7_heeds_2 : decode cX7_heeds 2 = .ok (.invokevirtual 128, 3) := by decide +kernel
theorem dX7_heeds_5 : decode cX7_heeds 5 = .ok (.ifCond .eq 30, 3) := by decide +kernel
theorem dX7_heeds_8 : decode cX7_heeds 8 = .ok (.iload_n 2, 1) := by decide +kernel
theorem dX7_heeds_9 : decode cX7_heeds 9 = .ok (.invokestatic 145, 3) := by decide +kernel
theorem dX7_heeds_12 : decode cX7_heeds 12 = .ok (.ifCond .eq 23, 3) := by decide +kernel
theorem dX7_heeds_15 : decode cX7_heeds 15 = .ok (.iload_n 3, 1) := by decide +kernel
theorem dX7_heeds_16 : decode cX7_heeds 16 = .ok (.iconst 1, 1) := by decide +kernel
theorem dX7_heeds_17 : decode cX7_heeds 17 = .ok (.bipush 9, 2) := by decide +kernel
theorem dX7_heeds_19 : decode cX7_heeds 19 = .ok (.invokestatic 75, 3) := by decide +kernel
theorem dX7_heeds_22 : decode cX7_heeds 22 = .ok (.ifCond .eq 13, 3) := by decide +kernel
theorem dX7_heeds_25 : decode cX7_heeds 25 = .ok (.aload_n 0, 1) := by decide +kernel
theorem dX7_heeds_26 : decode cX7_heeds 26 = .ok (.iload_n 1, 1) := by decide +kernel
theorem dX7_heeds_27 : decode cX7_heeds 27 = .ok (.iload_n 2, 1) := by decide +kernel
theorem dX7_heeds_28 : decode cX7_heeds 28 = .ok (.iload_n 3, 1) := by decide +kernel
theorem dX7_heeds_29 : decode cX7_heeds 29 = .ok (.invokevirtual 151, 3) := by decide +kernel
theorem dX7_heeds_32 : decode cX7_heeds 32 = .ok (.goto 5, 3) := by decide +kernel
theorem dX7_heeds_35 : decode cX7_heeds 35 = .ok (.ldc 119, 2) := by decide +kernel
theorem dX7_heeds_37 : decode cX7_heeds 37 = .ok (.ireturn, 1) := by decide +kernel
theorem dX7_sow_0 : decode cX7_sow 0 = .ok (.iload_n 1, 1) := by decide +kernel
theorem dX7_sow_1 : decode cX7_sow 1 = .ok (.invokestatic 145, 3) := by decide +kernel
theorem dX7_sow_4 : decode cX7_sow 4 = .ok (.ifCond .eq 25, 3) := by decide +kernel
theorem dX7_sow_7 : decode cX7_sow 7 = .ok (.iload_n 2, 1) := by decide +kernel
theorem dX7_sow_8 : decode cX7_sow 8 = .ok (.iconst 0, 1) := by decide +kernel
theorem dX7_sow_9 : decode cX7_sow 9 = .ok (.bipush 9, 2) := by decide +kernel
theorem dX7_sow_11 : decode cX7_sow 11 = .ok (.invokestatic 75, 3) := by decide +kernel
theorem dX7_sow_14 : decode cX7_sow 14 = .ok (.ifCond .eq 15, 3) := by decide +kernel
theorem dX7_sow_17 : decode cX7_sow 17 = .ok (.aload_n 0, 1) := by decide +kernel
theorem dX7_sow_18 : decode cX7_sow 18 = .ok (.bipush 7, 2) := by decide +kernel
theorem dX7_sow_20 : decode cX7_sow 20 = .ok (.iload_n 1, 1) := by decide +kernel
theorem dX7_sow_21 : decode cX7_sow 21 = .ok (.iadd, 1) := by decide +kernel
theorem dX7_sow_22 : decode cX7_sow 22 = .ok (.iload_n 2, 1) := by decide +kernel
theorem dX7_sow_23 : decode cX7_sow 23 = .ok (.invokevirtual 142, 3) := by decide +kernel
theorem dX7_sow_26 : decode cX7_sow 26 = .ok (.goto 5, 3) := by decide +kernel
theorem dX7_sow_29 : decode cX7_sow 29 = .ok (.ldc 119, 2) := by decide +kernel
theorem dX7_sow_31 : decode cX7_sow 31 = .ok (.ireturn, 1) := by decide +kernel
theorem dX7_field_0 : decode cX7_field 0 = .ok (.iload_n 1, 1) := by decide +kernel
theorem dX7_field_1 : decode cX7_field 1 = .ok (.invokestatic 145, 3) := by decide +kernel
theorem dX7_field_4 : decode cX7_field 4 = .ok (.ifCond .ne 6, 3) := by decide +kernel
theorem dX7_field_7 : decode cX7_field 7 = .ok (.ldc 119, 2) := by decide +kernel
theorem dX7_field_9 : decode cX7_field 9 = .ok (.ireturn, 1) := by decide +kernel
theorem dX7_field_10 : decode cX7_field 10 = .ok (.aload_n 0, 1) := by decide +kernel
theorem dX7_field_11 : decode cX7_field 11 = .ok (.iload_n 1, 1) := by decide +kernel
theorem dX7_field_12 : decode cX7_field 12 = .ok (.invokevirtual 93, 3) := by decide +kernel
theorem dX7_field_15 : decode cX7_field 15 = .ok (.istore_n 3, 1) := by decide +kernel
theorem dX7_field_16 : decode cX7_field 16 = .ok (.iload_n 2, 1) := by decide +kernel
theorem dX7_field_17 : decode cX7_field 17 = .ok (.tableswitch 87 0 4 #[35, 45, 55, 57, 72], 35) := by decide +kernel
theorem dX7_field_52 : decode cX7_field 52 = .ok (.aload_n 0, 1) := by decide +kernel
theorem dX7_field_53 : decode cX7_field 53 = .ok (.getfield 9, 3) := by decide +kernel
theorem dX7_field_56 : decode cX7_field 56 = .ok (.bipush 7, 2) := by decide +kernel
theorem dX7_field_58 : decode cX7_field 58 = .ok (.iload_n 1, 1) := by decide +kernel
theorem dX7_field_59 : decode cX7_field 59 = .ok (.iadd, 1) := by decide +kernel
theorem dX7_field_60 : decode cX7_field 60 = .ok (.iaload, 1) := by decide +kernel
theorem dX7_field_61 : decode cX7_field 61 = .ok (.ireturn, 1) := by decide +kernel
theorem dX7_field_62 : decode cX7_field 62 = .ok (.aload_n 0, 1) := by decide +kernel
theorem dX7_field_63 : decode cX7_field 63 = .ok (.getfield 9, 3) := by decide +kernel
theorem dX7_field_66 : decode cX7_field 66 = .ok (.bipush 13, 2) := by decide +kernel
theorem dX7_field_68 : decode cX7_field 68 = .ok (.iload_n 1, 1) := by decide +kernel
theorem dX7_field_69 : decode cX7_field 69 = .ok (.iadd, 1) := by decide +kernel
theorem dX7_field_70 : decode cX7_field 70 = .ok (.iaload, 1) := by decide +kernel
theorem dX7_field_71 : decode cX7_field 71 = .ok (.ireturn, 1) := by decide +kernel
theorem dX7_field_72 : decode cX7_field 72 = .ok (.iload_n 3, 1) := by decide +kernel
theorem dX7_field_73 : decode cX7_field 73 = .ok (.ireturn, 1) := by decide +kernel
theorem dX7_field_74 : decode cX7_field 74 = .ok (.iload_n 3, 1) := by decide +kernel
theorem dX7_field_75 : decode cX7_field 75 = .ok (.ifCond .ne 7, 3) := by decide +kernel
theorem dX7_field_78 : decode cX7_field 78 = .ok (.iconst 0, 1) := by decide +kernel
theorem dX7_field_79 : decode cX7_field 79 = .ok (.goto 9, 3) := by decide +kernel
theorem dX7_field_82 : decode cX7_field 82 = .ok (.aload_n 0, 1) := by decide +kernel
theorem dX7_field_83 : decode cX7_field 83 = .ok (.iload_n 1, 1) := by decide +kernel
theorem dX7_field_84 : decode cX7_field 84 = .ok (.iload_n 3, 1) := by decide +kernel
theorem dX7_field_85 : decode cX7_field 85 = .ok (.invokevirtual 90, 3) := by decide +kernel
theorem dX7_field_88 : decode cX7_field 88 = .ok (.ireturn, 1) := by decide +kernel
theorem dX7_field_89 : decode cX7_field 89 = .ok (.iload_n 3, 1) := by decide +kernel
theorem dX7_field_90 : decode cX7_field 90 = .ok (.ifCond .ne 7, 3) := by decide +kernel
theorem dX7_field_93 : decode cX7_field 93 = .ok (.iconst 0, 1) := by decide +kernel
theorem dX7_field_94 : decode cX7_field 94 = .ok (.goto 9, 3) := by decide +kernel
theorem dX7_field_97 : decode cX7_field 97 = .ok (.aload_n 0, 1) := by decide +kernel
theorem dX7_field_98 : decode cX7_field 98 = .ok (.iload_n 1, 1) := by decide +kernel
theorem dX7_field_99 : decode cX7_field 99 = .ok (.iload_n 3, 1) := by decide +kernel
theorem dX7_field_100 : decode cX7_field 100 = .ok (.invokevirtual 96, 3) := by decide +kernel
theorem dX7_field_103 : decode cX7_field 103 = .ok (.ireturn, 1) := by decide +kernel
theorem dX7_field_104 : decode cX7_field 104 = .ok (.ldc 119, 2) := by decide +kernel
theorem dX7_field_106 : decode cX7_field 106 = .ok (.ireturn, 1) := by decide +kernel
theorem dX7_votes_0 : decode cX7_votes 0 = .ok (.iload_n 1, 1) := by decide +kernel
theorem dX7_votes_1 : decode cX7_votes 1 = .ok (.invokestatic 145, 3) := by decide +kernel
theorem dX7_votes_4 : decode cX7_votes 4 = .ok (.ifCond .eq 22, 3) := by decide +kernel
theorem dX7_votes_7 : decode cX7_votes 7 = .ok (.iload_n 2, 1) := by decide +kernel
theorem dX7_votes_8 : decode cX7_votes 8 = .ok (.iconst 1, 1) := by decide +kernel
theorem dX7_votes_9 : decode cX7_votes 9 = .ok (.bipush 9, 2) := by decide +kernel
theorem dX7_votes_11 : decode cX7_votes 11 = .ok (.invokestatic 75, 3) := by decide +kernel
theorem dX7_votes_14 : decode cX7_votes 14 = .ok (.ifCond .eq 12, 3) := by decide +kernel
theorem dX7_votes_17 : decode cX7_votes 17 = .ok (.aload_n 0, 1) := by decide +kernel
theorem dX7_votes_18 : decode cX7_votes 18 = .ok (.iload_n 1, 1) := by decide +kernel
theorem dX7_votes_19 : decode cX7_votes 19 = .ok (.iload_n 2, 1) := by decide +kernel
theorem dX7_votes_20 : decode cX7_votes 20 = .ok (.invokevirtual 90, 3) := by decide +kernel
theorem dX7_votes_23 : decode cX7_votes 23 = .ok (.goto 5, 3) := by decide +kernel
theorem dX7_votes_26 : decode cX7_votes 26 = .ok (.ldc 119, 2) := by decide +kernel
theorem dX7_votes_28 : decode cX7_votes 28 = .ok (.ireturn, 1) := by decide +kernel
theorem dX7_draw_0 : decode cX7_draw 0 = .ok (.aload_n 0, 1) := by decide +kernel
theorem dX7_draw_1 : decode cX7_draw 1 = .ok (.getfield 9, 3) := by decide +kernel
theorem dX7_draw_4 : decode cX7_draw 4 = .ok (.iconst 0, 1) := by decide +kernel
theorem dX7_draw_5 : decode cX7_draw 5 = .ok (.aload_n 0, 1) := by decide +kernel
theorem dX7_draw_6 : decode cX7_draw 6 = .ok (.getfield 9, 3) := by decide +kernel
theorem dX7_draw_9 : decode cX7_draw 9 = .ok (.iconst 0, 1) := by decide +kernel
theorem dX7_draw_10 : decode cX7_draw 10 = .ok (.iaload, 1) := by decide +kernel
theorem dX7_draw_11 : decode cX7_draw 11 = .ok (.ldc 154, 2) := by decide +kernel
theorem dX7_draw_13 : decode cX7_draw 13 = .ok (.imul, 1) := by decide +kernel
theorem dX7_draw_14 : decode cX7_draw 14 = .ok (.sipush 12345, 3) := by decide +kernel
theorem dX7_draw_17 : decode cX7_draw 17 = .ok (.iadd, 1) := by decide +kernel
theorem dX7_draw_18 : decode cX7_draw 18 = .ok (.iastore, 1) := by decide +kernel
theorem dX7_draw_19 : decode cX7_draw 19 = .ok (.aload_n 0, 1) := by decide +kernel
theorem dX7_draw_20 : decode cX7_draw 20 = .ok (.getfield 9, 3) := by decide +kernel
theorem dX7_draw_23 : decode cX7_draw 23 = .ok (.iconst 0, 1) := by decide +kernel
theorem dX7_draw_24 : decode cX7_draw 24 = .ok (.iaload, 1) := by decide +kernel
theorem dX7_draw_25 : decode cX7_draw 25 = .ok (.bipush 8, 2) := by decide +kernel
theorem dX7_draw_27 : decode cX7_draw 27 = .ok (.iushr, 1) := by decide +kernel
theorem dX7_draw_28 : decode cX7_draw 28 = .ok (.ireturn, 1) := by decide +kernel
theorem dX7_deal_0 : decode cX7_deal 0 = .ok (.iload_n 1, 1) := by decide +kernel
theorem dX7_deal_1 : decode cX7_deal 1 = .ok (.iconst 1, 1) := by decide +kernel
theorem dX7_deal_2 : decode cX7_deal 2 = .ok (.bipush 8, 2) := by decide +kernel
theorem dX7_deal_4 : decode cX7_deal 4 = .ok (.invokestatic 75, 3) := by decide +kernel
theorem dX7_deal_7 : decode cX7_deal 7 = .ok (.ifCond .ne 6, 3) := by decide +kernel
theorem dX7_deal_10 : decode cX7_deal 10 = .ok (.ldc 119, 2) := by decide +kernel
theorem dX7_deal_12 : decode cX7_deal 12 = .ok (.ireturn, 1) := by decide +kernel
theorem dX7_deal_13 : decode cX7_deal 13 = .ok (.iconst 0, 1) := by decide +kernel
theorem dX7_deal_14 : decode cX7_deal 14 = .ok (.istore_n 2, 1) := by decide +kernel
theorem dX7_deal_15 : decode cX7_deal 15 = .ok (.iload_n 2, 1) := by decide +kernel
theorem dX7_deal_16 : decode cX7_deal 16 = .ok (.iload_n 1, 1) := by decide +kernel
theorem dX7_deal_17 : decode cX7_deal 17 = .ok (.if_icmp .ge 53, 3) := by decide +kernel
theorem dX7_deal_20 : decode cX7_deal 20 = .ok (.aload_n 0, 1) := by decide +kernel
theorem dX7_deal_21 : decode cX7_deal 21 = .ok (.getfield 9, 3) := by decide +kernel
theorem dX7_deal_24 : decode cX7_deal 24 = .ok (.iconst 1, 1) := by decide +kernel
theorem dX7_deal_25 : decode cX7_deal 25 = .ok (.iaload, 1) := by decide +kernel
theorem dX7_deal_26 : decode cX7_deal 26 = .ok (.bipush 8, 2) := by decide +kernel
theorem dX7_deal_28 : decode cX7_deal 28 = .ok (.if_icmp .ge 42, 3) := by decide +kernel
theorem dX7_deal_31 : decode cX7_deal 31 = .ok (.aload_n 0, 1) := by decide +kernel
theorem dX7_deal_32 : decode cX7_deal 32 = .ok (.invokevirtual 155, 3) := by decide +kernel
theorem dX7_deal_35 : decode cX7_deal 35 = .ok (.bipush 6, 2) := by decide +kernel
theorem dX7_deal_37 : decode cX7_deal 37 = .ok (.irem, 1) := by decide +kernel
theorem dX7_deal_38 : decode cX7_deal 38 = .ok (.istore_n 3, 1) := by decide +kernel
theorem dX7_deal_39 : decode cX7_deal 39 = .ok (.aload_n 0, 1) := by decide +kernel
theorem dX7_deal_40 : decode cX7_deal 40 = .ok (.invokevirtual 155, 3) := by decide +kernel
theorem dX7_deal_43 : decode cX7_deal 43 = .ok (.bipush 8, 2) := by decide +kernel
theorem dX7_deal_45 : decode cX7_deal 45 = .ok (.irem, 1) := by decide +kernel
theorem dX7_deal_46 : decode cX7_deal 46 = .ok (.istore 4, 2) := by decide +kernel
theorem dX7_deal_48 : decode cX7_deal 48 = .ok (.aload_n 0, 1) := by decide +kernel
theorem dX7_deal_49 : decode cX7_deal 49 = .ok (.iload_n 3, 1) := by decide +kernel
theorem dX7_deal_50 : decode cX7_deal 50 = .ok (.iload 4, 2) := by decide +kernel
theorem dX7_deal_52 : decode cX7_deal 52 = .ok (.aload_n 0, 1) := by decide +kernel
theorem dX7_deal_53 : decode cX7_deal 53 = .ok (.invokevirtual 155, 3) := by decide +kernel
theorem dX7_deal_56 : decode cX7_deal 56 = .ok (.bipush 10, 2) := by decide +kernel
theorem dX7_deal_58 : decode cX7_deal 58 = .ok (.irem, 1) := by decide +kernel
theorem dX7_deal_59 : decode cX7_deal 59 = .ok (.invokevirtual 121, 3) := by decide +kernel
theorem dX7_deal_62 : decode cX7_deal 62 = .ok (.istore 5, 2) := by decide +kernel
theorem dX7_deal_64 : decode cX7_deal 64 = .ok (.iinc 2 1, 3) := by decide +kernel
theorem dX7_deal_67 : decode cX7_deal 67 = .ok (.goto (-52), 3) := by decide +kernel
theorem dX7_deal_70 : decode cX7_deal 70 = .ok (.iload_n 2, 1) := by decide +kernel
theorem dX7_deal_71 : decode cX7_deal 71 = .ok (.ireturn, 1) := by decide +kernel
theorem dX7_seed_0 : decode cX7_seed 0 = .ok (.aload_n 0, 1) := by decide +kernel
theorem dX7_seed_1 : decode cX7_seed 1 = .ok (.iconst 0, 1) := by decide +kernel
theorem dX7_seed_2 : decode cX7_seed 2 = .ok (.iload_n 1, 1) := by decide +kernel
theorem dX7_seed_3 : decode cX7_seed 3 = .ok (.invokevirtual 142, 3) := by decide +kernel
theorem dX7_seed_6 : decode cX7_seed 6 = .ok (.ireturn, 1) := by decide +kernel
theorem dX7_hears_0 : decode cX7_hears 0 = .ok (.aload_n 0, 1) := by decide +kernel
theorem dX7_hears_1 : decode cX7_hears 1 = .ok (.iload_n 1, 1) := by decide +kernel
theorem dX7_hears_2 : decode cX7_hears 2 = .ok (.iload_n 2, 1) := by decide +kernel
theorem dX7_hears_3 : decode cX7_hears 3 = .ok (.iload_n 3, 1) := by decide +kernel
theorem dX7_hears_4 : decode cX7_hears 4 = .ok (.invokevirtual 151, 3) := by decide +kernel
theorem dX7_hears_7 : decode cX7_hears 7 = .ok (.istore 4, 2) := by decide +kernel
theorem dX7_hears_9 : decode cX7_hears 9 = .ok (.iload 4, 2) := by decide +kernel
theorem dX7_hears_11 : decode cX7_hears 11 = .ok (.aload_n 0, 1) := by decide +kernel
theorem dX7_hears_12 : decode cX7_hears 12 = .ok (.iload_n 1, 1) := by decide +kernel
theorem dX7_hears_13 : decode cX7_hears 13 = .ok (.iconst 3, 1) := by decide +kernel
theorem dX7_hears_14 : decode cX7_hears 14 = .ok (.invokevirtual 79, 3) := by decide +kernel
theorem dX7_hears_17 : decode cX7_hears 17 = .ok (.if_icmp .le 7, 3) := by decide +kernel
theorem dX7_hears_20 : decode cX7_hears 20 = .ok (.iconst 1, 1) := by decide +kernel
theorem dX7_hears_21 : decode cX7_hears 21 = .ok (.goto 4, 3) := by decide +kernel
theorem dX7_hears_24 : decode cX7_hears 24 = .ok (.iconst 0, 1) := by decide +kernel
theorem dX7_hears_25 : decode cX7_hears 25 = .ok (.istore 5, 2) := by decide +kernel
theorem dX7_hears_27 : decode cX7_hears 27 = .ok (.aload_n 0, 1) := by decide +kernel
theorem dX7_hears_28 : decode cX7_hears 28 = .ok (.iload_n 1, 1) := by decide +kernel
theorem dX7_hears_29 : decode cX7_hears 29 = .ok (.iconst 4, 1) := by decide +kernel
theorem dX7_hears_30 : decode cX7_hears 30 = .ok (.iload_n 2, 1) := by decide +kernel
theorem dX7_hears_31 : decode cX7_hears 31 = .ok (.iadd, 1) := by decide +kernel
theorem dX7_hears_32 : decode cX7_hears 32 = .ok (.iload 5, 2) := by decide +kernel
theorem dX7_hears_34 : decode cX7_hears 34 = .ok (.ifCond .eq 7, 3) := by decide +kernel
theorem dX7_hears_37 : decode cX7_hears 37 = .ok (.iload_n 3, 1) := by decide +kernel
theorem dX7_hears_38 : decode cX7_hears 38 = .ok (.goto 9, 3) := by decide +kernel
theorem dX7_hears_41 : decode cX7_hears 41 = .ok (.aload_n 0, 1) := by decide +kernel
theorem dX7_hears_42 : decode cX7_hears 42 = .ok (.iload_n 1, 1) := by decide +kernel
theorem dX7_hears_43 : decode cX7_hears 43 = .ok (.iload_n 2, 1) := by decide +kernel
theorem dX7_hears_44 : decode cX7_hears 44 = .ok (.invokevirtual 83, 3) := by decide +kernel
theorem dX7_hears_47 : decode cX7_hears 47 = .ok (.invokevirtual 115, 3) := by decide +kernel
theorem dX7_hears_50 : decode cX7_hears 50 = .ok (.aload_n 0, 1) := by decide +kernel
theorem dX7_hears_51 : decode cX7_hears 51 = .ok (.iload_n 1, 1) := by decide +kernel
theorem dX7_hears_52 : decode cX7_hears 52 = .ok (.iconst 3, 1) := by decide +kernel
theorem dX7_hears_53 : decode cX7_hears 53 = .ok (.iload 5, 2) := by decide +kernel
theorem dX7_hears_55 : decode cX7_hears 55 = .ok (.ifCond .eq 14, 3) := by decide +kernel
theorem dX7_hears_58 : decode cX7_hears 58 = .ok (.iload 4, 2) := by decide +kernel
theorem dX7_hears_60 : decode cX7_hears 60 = .ok (.iconst 0, 1) := by decide +kernel
theorem dX7_hears_61 : decode cX7_hears 61 = .ok (.bipush 99, 2) := by decide +kernel
theorem dX7_hears_63 : decode cX7_hears 63 = .ok (.invokestatic 108, 3) := by decide +kernel
theorem dX7_hears_66 : decode cX7_hears 66 = .ok (.goto 17, 3) := by decide +kernel
theorem dX7_hears_69 : decode cX7_hears 69 = .ok (.aload_n 0, 1) := by decide +kernel
theorem dX7_hears_70 : decode cX7_hears 70 = .ok (.iload_n 1, 1) := by decide +kernel
theorem dX7_hears_71 : decode cX7_hears 71 = .ok (.iconst 3, 1) := by decide +kernel
theorem dX7_hears_72 : decode cX7_hears 72 = .ok (.invokevirtual 79, 3) := by decide +kernel
theorem dX7_hears_75 : decode cX7_hears 75 = .ok (.iconst 1, 1) := by decide +kernel
theorem dX7_hears_76 : decode cX7_hears 76 = .ok (.isub, 1) := by decide +kernel
theorem dX7_hears_77 : decode cX7_hears 77 = .ok (.iconst 0, 1) := by decide +kernel
theorem dX7_hears_78 : decode cX7_hears 78 = .ok (.bipush 99, 2) := by decide +kernel
theorem dX7_hears_80 : decode cX7_hears 80 = .ok (.invokestatic 108, 3) := by decide +kernel
theorem dX7_hears_83 : decode cX7_hears 83 = .ok (.invokevirtual 115, 3) := by decide +kernel
theorem dX7_hears_86 : decode cX7_hears 86 = .ok (.aload_n 0, 1) := by decide +kernel
theorem dX7_hears_87 : decode cX7_hears 87 = .ok (.getfield 9, 3) := by decide +kernel
theorem dX7_hears_90 : decode cX7_hears 90 = .ok (.iconst 5, 1) := by decide +kernel
theorem dX7_hears_91 : decode cX7_hears 91 = .ok (.dup2, 1) := by decide +kernel
theorem dX7_hears_92 : decode cX7_hears 92 = .ok (.iaload, 1) := by decide +kernel
theorem dX7_hears_93 : decode cX7_hears 93 = .ok (.iload 5, 2) := by decide +kernel
theorem dX7_hears_95 : decode cX7_hears 95 = .ok (.ifCond .eq 7, 3) := by decide +kernel
theorem dX7_hears_98 : decode cX7_hears 98 = .ok (.iconst 1, 1) := by decide +kernel
theorem dX7_hears_99 : decode cX7_hears 99 = .ok (.goto 4, 3) := by decide +kernel
theorem dX7_hears_102 : decode cX7_hears 102 = .ok (.iconst 0, 1) := by decide +kernel
theorem dX7_hears_103 : decode cX7_hears 103 = .ok (.iadd, 1) := by decide +kernel
theorem dX7_hears_104 : decode cX7_hears 104 = .ok (.iastore, 1) := by decide +kernel
theorem dX7_hears_105 : decode cX7_hears 105 = .ok (.return_, 1) := by decide +kernel
theorem dX7_talks_0 : decode cX7_talks 0 = .ok (.aload_n 0, 1) := by decide +kernel
theorem dX7_talks_1 : decode cX7_talks 1 = .ok (.getfield 9, 3) := by decide +kernel
theorem dX7_talks_4 : decode cX7_talks 4 = .ok (.iconst 2, 1) := by decide +kernel
theorem dX7_talks_5 : decode cX7_talks 5 = .ok (.iaload, 1) := by decide +kernel
theorem dX7_talks_6 : decode cX7_talks 6 = .ok (.iload_n 1, 1) := by decide +kernel
theorem dX7_talks_7 : decode cX7_talks 7 = .ok (.iadd, 1) := by decide +kernel
theorem dX7_talks_8 : decode cX7_talks 8 = .ok (.bipush 6, 2) := by decide +kernel
theorem dX7_talks_10 : decode cX7_talks 10 = .ok (.irem, 1) := by decide +kernel
theorem dX7_talks_11 : decode cX7_talks 11 = .ok (.istore_n 2, 1) := by decide +kernel
theorem dX7_talks_12 : decode cX7_talks 12 = .ok (.aload_n 0, 1) := by decide +kernel
theorem dX7_talks_13 : decode cX7_talks 13 = .ok (.iload_n 1, 1) := by decide +kernel
theorem dX7_talks_14 : decode cX7_talks 14 = .ok (.iload_n 2, 1) := by decide +kernel
theorem dX7_talks_15 : decode cX7_talks 15 = .ok (.invokevirtual 148, 3) := by decide +kernel
theorem dX7_talks_18 : decode cX7_talks 18 = .ok (.istore_n 3, 1) := by decide +kernel
theorem dX7_talks_19 : decode cX7_talks 19 = .ok (.iconst 0, 1) := by decide +kernel
theorem dX7_talks_20 : decode cX7_talks 20 = .ok (.istore 4, 2) := by decide +kernel
theorem dX7_talks_22 : decode cX7_talks 22 = .ok (.iload 4, 2) := by decide +kernel
theorem dX7_talks_24 : decode cX7_talks 24 = .ok (.aload_n 0, 1) := by decide +kernel
theorem dX7_talks_25 : decode cX7_talks 25 = .ok (.getfield 9, 3) := by decide +kernel
theorem dX7_talks_28 : decode cX7_talks 28 = .ok (.iconst 1, 1) := by decide +kernel
theorem dX7_talks_29 : decode cX7_talks 29 = .ok (.iaload, 1) := by decide +kernel
theorem dX7_talks_30 : decode cX7_talks 30 = .ok (.if_icmp .ge 31, 3) := by decide +kernel
theorem dX7_talks_33 : decode cX7_talks 33 = .ok (.iload_n 3, 1) := by decide +kernel
theorem dX7_talks_34 : decode cX7_talks 34 = .ok (.ifCond .eq 27, 3) := by decide +kernel
theorem dX7_talks_37 : decode cX7_talks 37 = .ok (.aload_n 0, 1) := by decide +kernel
theorem dX7_talks_38 : decode cX7_talks 38 = .ok (.iload 4, 2) := by decide +kernel
theorem dX7_talks_40 : decode cX7_talks 40 = .ok (.iload_n 1, 1) := by decide +kernel
theorem dX7_talks_41 : decode cX7_talks 41 = .ok (.invokevirtual 124, 3) := by decide +kernel
theorem dX7_talks_44 : decode cX7_talks 44 = .ok (.ifCond .eq 11, 3) := by decide +kernel
theorem dX7_talks_47 : decode cX7_talks 47 = .ok (.aload_n 0, 1) := by decide +kernel
theorem dX7_talks_48 : decode cX7_talks 48 = .ok (.iload 4, 2) := by decide +kernel
theorem dX7_talks_50 : decode cX7_talks 50 = .ok (.iload_n 2, 1) := by decide +kernel
theorem dX7_talks_51 : decode cX7_talks 51 = .ok (.iload_n 3, 1) := by decide +kernel
theorem dX7_talks_52 : decode cX7_talks 52 = .ok (.invokevirtual 159, 3) := by decide +kernel
theorem dX7_talks_55 : decode cX7_talks 55 = .ok (.iinc 4 1, 3) := by decide +kernel
theorem dX7_talks_58 : decode cX7_talks 58 = .ok (.goto (-36), 3) := by decide +kernel
theorem dX7_talks_61 : decode cX7_talks 61 = .ok (.return_, 1) := by decide +kernel
theorem dX7_passesBy_0 : decode cX7_passesBy 0 = .ok (.aload_n 0, 1) := by decide +kernel
theorem dX7_passesBy_1 : decode cX7_passesBy 1 = .ok (.invokevirtual 155, 3) := by decide +kernel
theorem dX7_passesBy_4 : decode cX7_passesBy 4 = .ok (.bipush 8, 2) := by decide +kernel
theorem dX7_passesBy_6 : decode cX7_passesBy 6 = .ok (.irem, 1) := by decide +kernel
theorem dX7_passesBy_7 : decode cX7_passesBy 7 = .ok (.istore_n 1, 1) := by decide +kernel
theorem dX7_passesBy_8 : decode cX7_passesBy 8 = .ok (.aload_n 0, 1) := by decide +kernel
theorem dX7_passesBy_9 : decode cX7_passesBy 9 = .ok (.invokevirtual 155, 3) := by decide +kernel
theorem dX7_passesBy_12 : decode cX7_passesBy 12 = .ok (.bipush 6, 2) := by decide +kernel
theorem dX7_passesBy_14 : decode cX7_passesBy 14 = .ok (.irem, 1) := by decide +kernel
theorem dX7_passesBy_15 : decode cX7_passesBy 15 = .ok (.istore_n 2, 1) := by decide +kernel
end
section
theorem dX7_passesBy_16 : decode cX7_passesBy 16 = .ok (.iconst 0, 1) := by decide +kernel
theorem dX7_passesBy_17 : decode cX7_passesBy 17 = .ok (.istore_n 3, 1) := by decide +kernel
theorem dX7_passesBy_18 : decode cX7_passesBy 18 = .ok (.iload_n 3, 1) := by decide +kernel
theorem dX7_passesBy_19 : decode cX7_passesBy 19 = .ok (.aload_n 0, 1) := by decide +kernel
theorem dX7_passesBy_20 : decode cX7_passesBy 20 = .ok (.getfield 9, 3) := by decide +kernel
theorem dX7_passesBy_23 : decode cX7_passesBy 23 = .ok (.iconst 1, 1) := by decide +kernel
theorem dX7_passesBy_24 : decode cX7_passesBy 24 = .ok (.iaload, 1) := by decide +kernel
theorem dX7_passesBy_25 : decode cX7_passesBy 25 = .ok (.if_icmp .ge 57, 3) := by decide +kernel
theorem dX7_passesBy_28 : decode cX7_passesBy 28 = .ok (.aload_n 0, 1) := by decide +kernel
theorem dX7_passesBy_29 : decode cX7_passesBy 29 = .ok (.getfield 9, 3) := by decide +kernel
theorem dX7_passesBy_32 : decode cX7_passesBy 32 = .ok (.bipush 7, 2) := by decide +kernel
theorem dX7_passesBy_34 : decode cX7_passesBy 34 = .ok (.iload_n 2, 1) := by decide +kernel
theorem dX7_passesBy_35 : decode cX7_passesBy 35 = .ok (.iadd, 1) := by decide +kernel
theorem dX7_passesBy_36 : decode cX7_passesBy 36 = .ok (.iaload, 1) := by decide +kernel
theorem dX7_passesBy_37 : decode cX7_passesBy 37 = .ok (.ifCond .eq 45, 3) := by decide +kernel
theorem dX7_passesBy_40 : decode cX7_passesBy 40 = .ok (.aload_n 0, 1) := by decide +kernel
theorem dX7_passesBy_41 : decode cX7_passesBy 41 = .ok (.iload_n 3, 1) := by decide +kernel
theorem dX7_passesBy_42 : decode cX7_passesBy 42 = .ok (.iconst 4, 1) := by decide +kernel
theorem dX7_passesBy_43 : decode cX7_passesBy 43 = .ok (.iload_n 2, 1) := by decide +kernel
theorem dX7_passesBy_44 : decode cX7_passesBy 44 = .ok (.iadd, 1) := by decide +kernel
theorem dX7_passesBy_45 : decode cX7_passesBy 45 = .ok (.aload_n 0, 1) := by decide +kernel
theorem dX7_passesBy_46 : decode cX7_passesBy 46 = .ok (.iload_n 3, 1) := by decide +kernel
theorem dX7_passesBy_47 : decode cX7_passesBy 47 = .ok (.iconst 1, 1) := by decide +kernel
theorem dX7_passesBy_48 : decode cX7_passesBy 48 = .ok (.invokevirtual 79, 3) := by decide +kernel
theorem dX7_passesBy_51 : decode cX7_passesBy 51 = .ok (.iload_n 1, 1) := by decide +kernel
theorem dX7_passesBy_52 : decode cX7_passesBy 52 = .ok (.if_icmp .ne 15, 3) := by decide +kernel
theorem dX7_passesBy_55 : decode cX7_passesBy 55 = .ok (.aload_n 0, 1) := by decide +kernel
theorem dX7_passesBy_56 : decode cX7_passesBy 56 = .ok (.getfield 9, 3) := by decide +kernel
theorem dX7_passesBy_59 : decode cX7_passesBy 59 = .ok (.bipush 7, 2) := by decide +kernel
theorem dX7_passesBy_61 : decode cX7_passesBy 61 = .ok (.iload_n 2, 1) := by decide +kernel
theorem dX7_passesBy_62 : decode cX7_passesBy 62 = .ok (.iadd, 1) := by decide +kernel
theorem dX7_passesBy_63 : decode cX7_passesBy 63 = .ok (.iaload, 1) := by decide +kernel
theorem dX7_passesBy_64 : decode cX7_passesBy 64 = .ok (.goto 9, 3) := by decide +kernel
theorem dX7_passesBy_67 : decode cX7_passesBy 67 = .ok (.aload_n 0, 1) := by decide +kernel
theorem dX7_passesBy_68 : decode cX7_passesBy 68 = .ok (.iload_n 3, 1) := by decide +kernel
theorem dX7_passesBy_69 : decode cX7_passesBy 69 = .ok (.iload_n 2, 1) := by decide +kernel
theorem dX7_passesBy_70 : decode cX7_passesBy 70 = .ok (.invokevirtual 83, 3) := by decide +kernel
theorem dX7_passesBy_73 : decode cX7_passesBy 73 = .ok (.invokevirtual 115, 3) := by decide +kernel
theorem dX7_passesBy_76 : decode cX7_passesBy 76 = .ok (.iinc 3 1, 3) := by decide +kernel
theorem dX7_passesBy_79 : decode cX7_passesBy 79 = .ok (.goto (-61), 3) := by decide +kernel
theorem dX7_passesBy_82 : decode cX7_passesBy 82 = .ok (.return_, 1) := by decide +kernel
theorem dX7_week_0 : decode cX7_week 0 = .ok (.iconst 0, 1) := by decide +kernel
theorem dX7_week_1 : decode cX7_week 1 = .ok (.istore_n 1, 1) := by decide +kernel
theorem dX7_week_2 : decode cX7_week 2 = .ok (.iload_n 1, 1) := by decide +kernel
theorem dX7_week_3 : decode cX7_week 3 = .ok (.aload_n 0, 1) := by decide +kernel
theorem dX7_week_4 : decode cX7_week 4 = .ok (.getfield 9, 3) := by decide +kernel
theorem dX7_week_7 : decode cX7_week 7 = .ok (.iconst 1, 1) := by decide +kernel
theorem dX7_week_8 : decode cX7_week 8 = .ok (.iaload, 1) := by decide +kernel
theorem dX7_week_9 : decode cX7_week 9 = .ok (.if_icmp .ge 14, 3) := by decide +kernel
theorem dX7_week_12 : decode cX7_week 12 = .ok (.aload_n 0, 1) := by decide +kernel
theorem dX7_week_13 : decode cX7_week 13 = .ok (.iload_n 1, 1) := by decide +kernel
theorem dX7_week_14 : decode cX7_week 14 = .ok (.invokevirtual 162, 3) := by decide +kernel
theorem dX7_week_17 : decode cX7_week 17 = .ok (.iinc 1 1, 3) := by decide +kernel
theorem dX7_week_20 : decode cX7_week 20 = .ok (.goto (-18), 3) := by decide +kernel
theorem dX7_week_23 : decode cX7_week 23 = .ok (.aload_n 0, 1) := by decide +kernel
theorem dX7_week_24 : decode cX7_week 24 = .ok (.invokevirtual 166, 3) := by decide +kernel
theorem dX7_week_27 : decode cX7_week 27 = .ok (.aload_n 0, 1) := by decide +kernel
theorem dX7_week_28 : decode cX7_week 28 = .ok (.getfield 9, 3) := by decide +kernel
theorem dX7_week_31 : decode cX7_week 31 = .ok (.iconst 2, 1) := by decide +kernel
theorem dX7_week_32 : decode cX7_week 32 = .ok (.iaload, 1) := by decide +kernel
theorem dX7_week_33 : decode cX7_week 33 = .ok (.bipush 6, 2) := by decide +kernel
theorem dX7_week_35 : decode cX7_week 35 = .ok (.irem, 1) := by decide +kernel
theorem dX7_week_36 : decode cX7_week 36 = .ok (.istore_n 1, 1) := by decide +kernel
theorem dX7_week_37 : decode cX7_week 37 = .ok (.aload_n 0, 1) := by decide +kernel
theorem dX7_week_38 : decode cX7_week 38 = .ok (.iload_n 1, 1) := by decide +kernel
theorem dX7_week_39 : decode cX7_week 39 = .ok (.invokevirtual 93, 3) := by decide +kernel
theorem dX7_week_42 : decode cX7_week 42 = .ok (.istore_n 2, 1) := by decide +kernel
theorem dX7_week_43 : decode cX7_week 43 = .ok (.aload_n 0, 1) := by decide +kernel
theorem dX7_week_44 : decode cX7_week 44 = .ok (.getfield 9, 3) := by decide +kernel
theorem dX7_week_47 : decode cX7_week 47 = .ok (.bipush 13, 2) := by decide +kernel
theorem dX7_week_49 : decode cX7_week 49 = .ok (.iload_n 1, 1) := by decide +kernel
theorem dX7_week_50 : decode cX7_week 50 = .ok (.iadd, 1) := by decide +kernel
theorem dX7_week_51 : decode cX7_week 51 = .ok (.iload_n 2, 1) := by decide +kernel
theorem dX7_week_52 : decode cX7_week 52 = .ok (.iastore, 1) := by decide +kernel
theorem dX7_week_53 : decode cX7_week 53 = .ok (.aload_n 0, 1) := by decide +kernel
theorem dX7_week_54 : decode cX7_week 54 = .ok (.getfield 9, 3) := by decide +kernel
theorem dX7_week_57 : decode cX7_week 57 = .ok (.iconst 3, 1) := by decide +kernel
theorem dX7_week_58 : decode cX7_week 58 = .ok (.dup2, 1) := by decide +kernel
theorem dX7_week_59 : decode cX7_week 59 = .ok (.iaload, 1) := by decide +kernel
theorem dX7_week_60 : decode cX7_week 60 = .ok (.iload_n 2, 1) := by decide +kernel
theorem dX7_week_61 : decode cX7_week 61 = .ok (.ifCond .ne 7, 3) := by decide +kernel
theorem dX7_week_64 : decode cX7_week 64 = .ok (.iconst 0, 1) := by decide +kernel
theorem dX7_week_65 : decode cX7_week 65 = .ok (.goto 9, 3) := by decide +kernel
theorem dX7_week_68 : decode cX7_week 68 = .ok (.aload_n 0, 1) := by decide +kernel
theorem dX7_week_69 : decode cX7_week 69 = .ok (.iload_n 1, 1) := by decide +kernel
theorem dX7_week_70 : decode cX7_week 70 = .ok (.iload_n 2, 1) := by decide +kernel
theorem dX7_week_71 : decode cX7_week 71 = .ok (.invokevirtual 90, 3) := by decide +kernel
theorem dX7_week_74 : decode cX7_week 74 = .ok (.iadd, 1) := by decide +kernel
theorem dX7_week_75 : decode cX7_week 75 = .ok (.iastore, 1) := by decide +kernel
theorem dX7_week_76 : decode cX7_week 76 = .ok (.aload_n 0, 1) := by decide +kernel
theorem dX7_week_77 : decode cX7_week 77 = .ok (.getfield 9, 3) := by decide +kernel
theorem dX7_week_80 : decode cX7_week 80 = .ok (.iconst 4, 1) := by decide +kernel
theorem dX7_week_81 : decode cX7_week 81 = .ok (.dup2, 1) := by decide +kernel
theorem dX7_week_82 : decode cX7_week 82 = .ok (.iaload, 1) := by decide +kernel
theorem dX7_week_83 : decode cX7_week 83 = .ok (.iload_n 2, 1) := by decide +kernel
theorem dX7_week_84 : decode cX7_week 84 = .ok (.aload_n 0, 1) := by decide +kernel
theorem dX7_week_85 : decode cX7_week 85 = .ok (.getfield 9, 3) := by decide +kernel
theorem dX7_week_88 : decode cX7_week 88 = .ok (.bipush 7, 2) := by decide +kernel
theorem dX7_week_90 : decode cX7_week 90 = .ok (.iload_n 1, 1) := by decide +kernel
theorem dX7_week_91 : decode cX7_week 91 = .ok (.iadd, 1) := by decide +kernel
theorem dX7_week_92 : decode cX7_week 92 = .ok (.iaload, 1) := by decide +kernel
theorem dX7_week_93 : decode cX7_week 93 = .ok (.if_icmp .ne 7, 3) := by decide +kernel
theorem dX7_week_96 : decode cX7_week 96 = .ok (.iconst 0, 1) := by decide +kernel
theorem dX7_week_97 : decode cX7_week 97 = .ok (.goto 4, 3) := by decide +kernel
theorem dX7_week_100 : decode cX7_week 100 = .ok (.iconst 1, 1) := by decide +kernel
theorem dX7_week_101 : decode cX7_week 101 = .ok (.iadd, 1) := by decide +kernel
theorem dX7_week_102 : decode cX7_week 102 = .ok (.iastore, 1) := by decide +kernel
theorem dX7_week_103 : decode cX7_week 103 = .ok (.aload_n 0, 1) := by decide +kernel
theorem dX7_week_104 : decode cX7_week 104 = .ok (.getfield 9, 3) := by decide +kernel
theorem dX7_week_107 : decode cX7_week 107 = .ok (.iconst 2, 1) := by decide +kernel
theorem dX7_week_108 : decode cX7_week 108 = .ok (.dup2, 1) := by decide +kernel
theorem dX7_week_109 : decode cX7_week 109 = .ok (.iaload, 1) := by decide +kernel
theorem dX7_week_110 : decode cX7_week 110 = .ok (.iconst 1, 1) := by decide +kernel
theorem dX7_week_111 : decode cX7_week 111 = .ok (.iadd, 1) := by decide +kernel
theorem dX7_week_112 : decode cX7_week 112 = .ok (.iastore, 1) := by decide +kernel
theorem dX7_week_113 : decode cX7_week 113 = .ok (.return_, 1) := by decide +kernel
theorem dX7_goesOn_0 : decode cX7_goesOn 0 = .ok (.iconst 0, 1) := by decide +kernel
theorem dX7_goesOn_1 : decode cX7_goesOn 1 = .ok (.istore_n 2, 1) := by decide +kernel
theorem dX7_goesOn_2 : decode cX7_goesOn 2 = .ok (.iload_n 2, 1) := by decide +kernel
theorem dX7_goesOn_3 : decode cX7_goesOn 3 = .ok (.iload_n 1, 1) := by decide +kernel
theorem dX7_goesOn_4 : decode cX7_goesOn 4 = .ok (.if_icmp .ge 13, 3) := by decide +kernel
theorem dX7_goesOn_7 : decode cX7_goesOn 7 = .ok (.aload_n 0, 1) := by decide +kernel
theorem dX7_goesOn_8 : decode cX7_goesOn 8 = .ok (.invokevirtual 169, 3) := by decide +kernel
theorem dX7_goesOn_11 : decode cX7_goesOn 11 = .ok (.iinc 2 1, 3) := by decide +kernel
theorem dX7_goesOn_14 : decode cX7_goesOn 14 = .ok (.goto (-12), 3) := by decide +kernel
theorem dX7_goesOn_17 : decode cX7_goesOn 17 = .ok (.return_, 1) := by decide +kernel
theorem dX7_weeks_0 : decode cX7_weeks 0 = .ok (.iload_n 1, 1) := by decide +kernel
theorem dX7_weeks_1 : decode cX7_weeks 1 = .ok (.iconst 1, 1) := by decide +kernel
theorem dX7_weeks_2 : decode cX7_weeks 2 = .ok (.bipush 100, 2) := by decide +kernel
theorem dX7_weeks_4 : decode cX7_weeks 4 = .ok (.invokestatic 75, 3) := by decide +kernel
theorem dX7_weeks_7 : decode cX7_weeks 7 = .ok (.ifCond .ne 6, 3) := by decide +kernel
theorem dX7_weeks_10 : decode cX7_weeks 10 = .ok (.ldc 119, 2) := by decide +kernel
theorem dX7_weeks_12 : decode cX7_weeks 12 = .ok (.ireturn, 1) := by decide +kernel
theorem dX7_weeks_13 : decode cX7_weeks 13 = .ok (.aload_n 0, 1) := by decide +kernel
theorem dX7_weeks_14 : decode cX7_weeks 14 = .ok (.getfield 9, 3) := by decide +kernel
theorem dX7_weeks_17 : decode cX7_weeks 17 = .ok (.iconst 3, 1) := by decide +kernel
theorem dX7_weeks_18 : decode cX7_weeks 18 = .ok (.iaload, 1) := by decide +kernel
theorem dX7_weeks_19 : decode cX7_weeks 19 = .ok (.istore_n 2, 1) := by decide +kernel
theorem dX7_weeks_20 : decode cX7_weeks 20 = .ok (.aload_n 0, 1) := by decide +kernel
theorem dX7_weeks_21 : decode cX7_weeks 21 = .ok (.sipush 9999, 3) := by decide +kernel
theorem dX7_weeks_24 : decode cX7_weeks 24 = .ok (.aload_n 0, 1) := by decide +kernel
theorem dX7_weeks_25 : decode cX7_weeks 25 = .ok (.getfield 9, 3) := by decide +kernel
theorem dX7_weeks_28 : decode cX7_weeks 28 = .ok (.iconst 2, 1) := by decide +kernel
theorem dX7_weeks_29 : decode cX7_weeks 29 = .ok (.iaload, 1) := by decide +kernel
theorem dX7_weeks_30 : decode cX7_weeks 30 = .ok (.isub, 1) := by decide +kernel
theorem dX7_weeks_31 : decode cX7_weeks 31 = .ok (.iconst 0, 1) := by decide +kernel
theorem dX7_weeks_32 : decode cX7_weeks 32 = .ok (.iload_n 1, 1) := by decide +kernel
theorem dX7_weeks_33 : decode cX7_weeks 33 = .ok (.invokestatic 108, 3) := by decide +kernel
theorem dX7_weeks_36 : decode cX7_weeks 36 = .ok (.invokevirtual 172, 3) := by decide +kernel
theorem dX7_weeks_39 : decode cX7_weeks 39 = .ok (.aload_n 0, 1) := by decide +kernel
theorem dX7_weeks_40 : decode cX7_weeks 40 = .ok (.getfield 9, 3) := by decide +kernel
theorem dX7_weeks_43 : decode cX7_weeks 43 = .ok (.iconst 3, 1) := by decide +kernel
theorem dX7_weeks_44 : decode cX7_weeks 44 = .ok (.iaload, 1) := by decide +kernel
theorem dX7_weeks_45 : decode cX7_weeks 45 = .ok (.iload_n 2, 1) := by decide +kernel
theorem dX7_weeks_46 : decode cX7_weeks 46 = .ok (.isub, 1) := by decide +kernel
theorem dX7_weeks_47 : decode cX7_weeks 47 = .ok (.ireturn, 1) := by decide +kernel
theorem dX7_agreed_0 : decode cX7_agreed 0 = .ok (.iconst 0, 1) := by decide +kernel
theorem dX7_agreed_1 : decode cX7_agreed 1 = .ok (.istore_n 1, 1) := by decide +kernel
theorem dX7_agreed_2 : decode cX7_agreed 2 = .ok (.iconst 0, 1) := by decide +kernel
theorem dX7_agreed_3 : decode cX7_agreed 3 = .ok (.istore_n 2, 1) := by decide +kernel
theorem dX7_agreed_4 : decode cX7_agreed 4 = .ok (.iload_n 2, 1) := by decide +kernel
theorem dX7_agreed_5 : decode cX7_agreed 5 = .ok (.bipush 6, 2) := by decide +kernel
theorem dX7_agreed_7 : decode cX7_agreed 7 = .ok (.if_icmp .ge 94, 3) := by decide +kernel
theorem dX7_agreed_10 : decode cX7_agreed 10 = .ok (.aload_n 0, 1) := by decide +kernel
theorem dX7_agreed_11 : decode cX7_agreed 11 = .ok (.iload_n 2, 1) := by decide +kernel
theorem dX7_agreed_12 : decode cX7_agreed 12 = .ok (.invokevirtual 93, 3) := by decide +kernel
theorem dX7_agreed_15 : decode cX7_agreed 15 = .ok (.istore_n 3, 1) := by decide +kernel
theorem dX7_agreed_16 : decode cX7_agreed 16 = .ok (.iload_n 3, 1) := by decide +kernel
theorem dX7_agreed_17 : decode cX7_agreed 17 = .ok (.ifCond .eq 7, 3) := by decide +kernel
theorem dX7_agreed_20 : decode cX7_agreed 20 = .ok (.iconst 1, 1) := by decide +kernel
theorem dX7_agreed_21 : decode cX7_agreed 21 = .ok (.goto 4, 3) := by decide +kernel
theorem dX7_agreed_24 : decode cX7_agreed 24 = .ok (.iconst 0, 1) := by decide +kernel
theorem dX7_agreed_25 : decode cX7_agreed 25 = .ok (.istore 4, 2) := by decide +kernel
theorem dX7_agreed_27 : decode cX7_agreed 27 = .ok (.iconst 0, 1) := by decide +kernel
theorem dX7_agreed_28 : decode cX7_agreed 28 = .ok (.istore 5, 2) := by decide +kernel
theorem dX7_agreed_30 : decode cX7_agreed 30 = .ok (.iload 5, 2) := by decide +kernel
theorem dX7_agreed_32 : decode cX7_agreed 32 = .ok (.aload_n 0, 1) := by decide +kernel
theorem dX7_agreed_33 : decode cX7_agreed 33 = .ok (.getfield 9, 3) := by decide +kernel
theorem dX7_agreed_36 : decode cX7_agreed 36 = .ok (.iconst 1, 1) := by decide +kernel
theorem dX7_agreed_37 : decode cX7_agreed 37 = .ok (.iaload, 1) := by decide +kernel
theorem dX7_agreed_38 : decode cX7_agreed 38 = .ok (.if_icmp .ge 42, 3) := by decide +kernel
theorem dX7_agreed_41 : decode cX7_agreed 41 = .ok (.iload 4, 2) := by decide +kernel
theorem dX7_agreed_43 : decode cX7_agreed 43 = .ok (.ifCond .eq 28, 3) := by decide +kernel
theorem dX7_agreed_46 : decode cX7_agreed 46 = .ok (.aload_n 0, 1) := by decide +kernel
theorem dX7_agreed_47 : decode cX7_agreed 47 = .ok (.iload 5, 2) := by decide +kernel
theorem dX7_agreed_49 : decode cX7_agreed 49 = .ok (.iload_n 2, 1) := by decide +kernel
theorem dX7_agreed_50 : decode cX7_agreed 50 = .ok (.invokevirtual 83, 3) := by decide +kernel
theorem dX7_agreed_53 : decode cX7_agreed 53 = .ok (.ifCond .eq 14, 3) := by decide +kernel
theorem dX7_agreed_56 : decode cX7_agreed 56 = .ok (.aload_n 0, 1) := by decide +kernel
theorem dX7_agreed_57 : decode cX7_agreed 57 = .ok (.iload 5, 2) := by decide +kernel
theorem dX7_agreed_59 : decode cX7_agreed 59 = .ok (.iload_n 2, 1) := by decide +kernel
theorem dX7_agreed_60 : decode cX7_agreed 60 = .ok (.invokevirtual 83, 3) := by decide +kernel
theorem dX7_agreed_63 : decode cX7_agreed 63 = .ok (.iload_n 3, 1) := by decide +kernel
theorem dX7_agreed_64 : decode cX7_agreed 64 = .ok (.if_icmp .ne 7, 3) := by decide +kernel
theorem dX7_agreed_67 : decode cX7_agreed 67 = .ok (.iconst 1, 1) := by decide +kernel
theorem dX7_agreed_68 : decode cX7_agreed 68 = .ok (.goto 4, 3) := by decide +kernel
theorem dX7_agreed_71 : decode cX7_agreed 71 = .ok (.iconst 0, 1) := by decide +kernel
theorem dX7_agreed_72 : decode cX7_agreed 72 = .ok (.istore 4, 2) := by decide +kernel
theorem dX7_agreed_74 : decode cX7_agreed 74 = .ok (.iinc 5 1, 3) := by decide +kernel
theorem dX7_agreed_77 : decode cX7_agreed 77 = .ok (.goto (-47), 3) := by decide +kernel
theorem dX7_agreed_80 : decode cX7_agreed 80 = .ok (.iload_n 1, 1) := by decide +kernel
theorem dX7_agreed_81 : decode cX7_agreed 81 = .ok (.iload 4, 2) := by decide +kernel
theorem dX7_agreed_83 : decode cX7_agreed 83 = .ok (.ifCond .eq 9, 3) := by decide +kernel
theorem dX7_agreed_86 : decode cX7_agreed 86 = .ok (.iconst 1, 1) := by decide +kernel
theorem dX7_agreed_87 : decode cX7_agreed 87 = .ok (.iload_n 2, 1) := by decide +kernel
theorem dX7_agreed_88 : decode cX7_agreed 88 = .ok (.ishl, 1) := by decide +kernel
theorem dX7_agreed_89 : decode cX7_agreed 89 = .ok (.goto 4, 3) := by decide +kernel
theorem dX7_agreed_92 : decode cX7_agreed 92 = .ok (.iconst 0, 1) := by decide +kernel
theorem dX7_agreed_93 : decode cX7_agreed 93 = .ok (.ior, 1) := by decide +kernel
theorem dX7_agreed_94 : decode cX7_agreed 94 = .ok (.istore_n 1, 1) := by decide +kernel
theorem dX7_agreed_95 : decode cX7_agreed 95 = .ok (.iinc 2 1, 3) := by decide +kernel
theorem dX7_agreed_98 : decode cX7_agreed 98 = .ok (.goto (-94), 3) := by decide +kernel
theorem dX7_agreed_101 : decode cX7_agreed 101 = .ok (.iload_n 1, 1) := by decide +kernel
theorem dX7_agreed_102 : decode cX7_agreed 102 = .ok (.ireturn, 1) := by decide +kernel
theorem dX7_allSure_0 : decode cX7_allSure 0 = .ok (.iconst 0, 1) := by decide +kernel
theorem dX7_allSure_1 : decode cX7_allSure 1 = .ok (.istore_n 1, 1) := by decide +kernel
theorem dX7_allSure_2 : decode cX7_allSure 2 = .ok (.iconst 0, 1) := by decide +kernel
theorem dX7_allSure_3 : decode cX7_allSure 3 = .ok (.istore_n 2, 1) := by decide +kernel
theorem dX7_allSure_4 : decode cX7_allSure 4 = .ok (.iload_n 2, 1) := by decide +kernel
theorem dX7_allSure_5 : decode cX7_allSure 5 = .ok (.aload_n 0, 1) := by decide +kernel
theorem dX7_allSure_6 : decode cX7_allSure 6 = .ok (.getfield 9, 3) := by decide +kernel
theorem dX7_allSure_9 : decode cX7_allSure 9 = .ok (.iconst 1, 1) := by decide +kernel
theorem dX7_allSure_10 : decode cX7_allSure 10 = .ok (.iaload, 1) := by decide +kernel
theorem dX7_allSure_11 : decode cX7_allSure 11 = .ok (.if_icmp .ge 18, 3) := by decide +kernel
theorem dX7_allSure_14 : decode cX7_allSure 14 = .ok (.iload_n 1, 1) := by decide +kernel
theorem dX7_allSure_15 : decode cX7_allSure 15 = .ok (.aload_n 0, 1) := by decide +kernel
theorem dX7_allSure_16 : decode cX7_allSure 16 = .ok (.iload_n 2, 1) := by decide +kernel
theorem dX7_allSure_17 : decode cX7_allSure 17 = .ok (.iconst 3, 1) := by decide +kernel
theorem dX7_allSure_18 : decode cX7_allSure 18 = .ok (.invokevirtual 79, 3) := by decide +kernel
theorem dX7_allSure_21 : decode cX7_allSure 21 = .ok (.iadd, 1) := by decide +kernel
theorem dX7_allSure_22 : decode cX7_allSure 22 = .ok (.istore_n 1, 1) := by decide +kernel
theorem dX7_allSure_23 : decode cX7_allSure 23 = .ok (.iinc 2 1, 3) := by decide +kernel
theorem dX7_allSure_26 : decode cX7_allSure 26 = .ok (.goto (-22), 3) := by decide +kernel
theorem dX7_allSure_29 : decode cX7_allSure 29 = .ok (.iload_n 1, 1) := by decide +kernel
theorem dX7_allSure_30 : decode cX7_allSure 30 = .ok (.ireturn, 1) := by decide +kernel
theorem dX7_county_0 : decode cX7_county 0 = .ok (.iload_n 1, 1) := by decide +kernel
theorem dX7_county_1 : decode cX7_county 1 = .ok (.tableswitch 54 0 4 #[35, 35, 35, 44, 49], 35) := by decide +kernel
theorem dX7_county_36 : decode cX7_county 36 = .ok (.aload_n 0, 1) := by decide +kernel
theorem dX7_county_37 : decode cX7_county 37 = .ok (.getfield 9, 3) := by decide +kernel
theorem dX7_county_40 : decode cX7_county 40 = .ok (.iconst 3, 1) := by decide +kernel
theorem dX7_county_41 : decode cX7_county 41 = .ok (.iload_n 1, 1) := by decide +kernel
theorem dX7_county_42 : decode cX7_county 42 = .ok (.iadd, 1) := by decide +kernel
theorem dX7_county_43 : decode cX7_county 43 = .ok (.iaload, 1) := by decide +kernel
theorem dX7_county_44 : decode cX7_county 44 = .ok (.ireturn, 1) := by decide +kernel
theorem dX7_county_45 : decode cX7_county 45 = .ok (.aload_n 0, 1) := by decide +kernel
theorem dX7_county_46 : decode cX7_county 46 = .ok (.invokevirtual 175, 3) := by decide +kernel
theorem dX7_county_49 : decode cX7_county 49 = .ok (.ireturn, 1) := by decide +kernel
theorem dX7_county_50 : decode cX7_county 50 = .ok (.aload_n 0, 1) := by decide +kernel
theorem dX7_county_51 : decode cX7_county 51 = .ok (.invokevirtual 178, 3) := by decide +kernel
theorem dX7_county_54 : decode cX7_county 54 = .ok (.ireturn, 1) := by decide +kernel
theorem dX7_county_55 : decode cX7_county 55 = .ok (.ldc 119, 2) := by decide +kernel
theorem dX7_county_57 : decode cX7_county 57 = .ok (.ireturn, 1) := by decide +kernel
theorem dX7_dreams_0 : decode cX7_dreams 0 = .ok (.aload_n 0, 1) := by decide +kernel
theorem dX7_dreams_1 : decode cX7_dreams 1 = .ok (.getfield 9, 3) := by decide +kernel
theorem dX7_dreams_4 : decode cX7_dreams 4 = .ok (.aload_n 0, 1) := by decide +kernel
theorem dX7_dreams_5 : decode cX7_dreams 5 = .ok (.getfield 16, 3) := by decide +kernel
theorem dX7_dreams_8 : decode cX7_dreams 8 = .ok (.invokestatic 181, 3) := by decide +kernel
theorem dX7_dreams_11 : decode cX7_dreams 11 = .ok (.return_, 1) := by decide +kernel
theorem dX7_putsBack_0 : decode cX7_putsBack 0 = .ok (.aload_n 0, 1) := by decide +kernel
theorem dX7_putsBack_1 : decode cX7_putsBack 1 = .ok (.getfield 16, 3) := by decide +kernel
theorem dX7_putsBack_4 : decode cX7_putsBack 4 = .ok (.aload_n 0, 1) := by decide +kernel
theorem dX7_putsBack_5 : decode cX7_putsBack 5 = .ok (.getfield 9, 3) := by decide +kernel
theorem dX7_putsBack_8 : decode cX7_putsBack 8 = .ok (.invokestatic 181, 3) := by decide +kernel
theorem dX7_putsBack_11 : decode cX7_putsBack 11 = .ok (.return_, 1) := by decide +kernel
theorem dX7_behind_0 : decode cX7_behind 0 = .ok (.iload_n 1, 1) := by decide +kernel
theorem dX7_behind_1 : decode cX7_behind 1 = .ok (.iconst 0, 1) := by decide +kernel
theorem dX7_behind_2 : decode cX7_behind 2 = .ok (.bipush 100, 2) := by decide +kernel
theorem dX7_behind_4 : decode cX7_behind 4 = .ok (.invokestatic 75, 3) := by decide +kernel
theorem dX7_behind_7 : decode cX7_behind 7 = .ok (.ifCond .eq 13, 3) := by decide +kernel
theorem dX7_behind_10 : decode cX7_behind 10 = .ok (.iload_n 2, 1) := by decide +kernel
theorem dX7_behind_11 : decode cX7_behind 11 = .ok (.iconst 0, 1) := by decide +kernel
theorem dX7_behind_12 : decode cX7_behind 12 = .ok (.bipush 8, 2) := by decide +kernel
theorem dX7_behind_14 : decode cX7_behind 14 = .ok (.invokestatic 75, 3) := by decide +kernel
theorem dX7_behind_17 : decode cX7_behind 17 = .ok (.ifCond .ne 6, 3) := by decide +kernel
theorem dX7_behind_20 : decode cX7_behind 20 = .ok (.ldc 119, 2) := by decide +kernel
theorem dX7_behind_22 : decode cX7_behind 22 = .ok (.ireturn, 1) := by decide +kernel
theorem dX7_behind_23 : decode cX7_behind 23 = .ok (.aload_n 0, 1) := by decide +kernel
theorem dX7_behind_24 : decode cX7_behind 24 = .ok (.invokevirtual 185, 3) := by decide +kernel
theorem dX7_behind_27 : decode cX7_behind 27 = .ok (.aload_n 0, 1) := by decide +kernel
theorem dX7_behind_28 : decode cX7_behind 28 = .ok (.iload_n 1, 1) := by decide +kernel
theorem dX7_behind_29 : decode cX7_behind 29 = .ok (.invokevirtual 172, 3) := by decide +kernel
theorem dX7_behind_32 : decode cX7_behind 32 = .ok (.iload_n 2, 1) := by decide +kernel
theorem dX7_behind_33 : decode cX7_behind 33 = .ok (.iconst 3, 1) := by decide +kernel
theorem dX7_behind_34 : decode cX7_behind 34 = .ok (.if_icmp .ge 14, 3) := by decide +kernel
theorem dX7_behind_37 : decode cX7_behind 37 = .ok (.aload_n 0, 1) := by decide +kernel
theorem dX7_behind_38 : decode cX7_behind 38 = .ok (.getfield 9, 3) := by decide +kernel
theorem dX7_behind_41 : decode cX7_behind 41 = .ok (.iconst 3, 1) := by decide +kernel
theorem dX7_behind_42 : decode cX7_behind 42 = .ok (.iload_n 2, 1) := by decide +kernel
theorem dX7_behind_43 : decode cX7_behind 43 = .ok (.iadd, 1) := by decide +kernel
theorem dX7_behind_44 : decode cX7_behind 44 = .ok (.iaload, 1) := by decide +kernel
theorem dX7_behind_45 : decode cX7_behind 45 = .ok (.goto 14, 3) := by decide +kernel
theorem dX7_behind_48 : decode cX7_behind 48 = .ok (.aload_n 0, 1) := by decide +kernel
theorem dX7_behind_49 : decode cX7_behind 49 = .ok (.getfield 9, 3) := by decide +kernel
theorem dX7_behind_52 : decode cX7_behind 52 = .ok (.bipush 13, 2) := by decide +kernel
theorem dX7_behind_54 : decode cX7_behind 54 = .ok (.iload_n 2, 1) := by decide +kernel
theorem dX7_behind_55 : decode cX7_behind 55 = .ok (.iadd, 1) := by decide +kernel
theorem dX7_behind_56 : decode cX7_behind 56 = .ok (.iconst 3, 1) := by decide +kernel
theorem dX7_behind_57 : decode cX7_behind 57 = .ok (.isub, 1) := by decide +kernel
theorem dX7_behind_58 : decode cX7_behind 58 = .ok (.iaload, 1) := by decide +kernel
theorem dX7_behind_59 : decode cX7_behind 59 = .ok (.istore_n 3, 1) := by decide +kernel
theorem dX7_behind_60 : decode cX7_behind 60 = .ok (.aload_n 0, 1) := by decide +kernel
theorem dX7_behind_61 : decode cX7_behind 61 = .ok (.invokevirtual 188, 3) := by decide +kernel
theorem dX7_behind_64 : decode cX7_behind 64 = .ok (.iload_n 3, 1) := by decide +kernel
theorem dX7_behind_65 : decode cX7_behind 65 = .ok (.ireturn, 1) := by decide +kernel
theorem dX7_first_0 : decode cX7_first 0 = .ok (.iload_n 1, 1) := by decide +kernel
theorem dX7_first_1 : decode cX7_first 1 = .ok (.invokestatic 145, 3) := by decide +kernel
theorem dX7_first_4 : decode cX7_first 4 = .ok (.ifCond .eq 13, 3) := by decide +kernel
theorem dX7_first_7 : decode cX7_first 7 = .ok (.iload_n 2, 1) := by decide +kernel
theorem dX7_first_8 : decode cX7_first 8 = .ok (.iconst 0, 1) := by decide +kernel
theorem dX7_first_9 : decode cX7_first 9 = .ok (.bipush 9, 2) := by decide +kernel
theorem dX7_first_11 : decode cX7_first 11 = .ok (.invokestatic 75, 3) := by decide +kernel
theorem dX7_first_14 : decode cX7_first 14 = .ok (.ifCond .ne 6, 3) := by decide +kernel
theorem dX7_first_17 : decode cX7_first 17 = .ok (.ldc 119, 2) := by decide +kernel
theorem dX7_first_19 : decode cX7_first 19 = .ok (.ireturn, 1) := by decide +kernel
theorem dX7_first_20 : decode cX7_first 20 = .ok (.aload_n 0, 1) := by decide +kernel
theorem dX7_first_21 : decode cX7_first 21 = .ok (.invokevirtual 185, 3) := by decide +kernel
theorem dX7_first_24 : decode cX7_first 24 = .ok (.iconst 0, 1) := by decide +kernel
theorem dX7_first_25 : decode cX7_first 25 = .ok (.istore_n 3, 1) := by decide +kernel
theorem dX7_first_26 : decode cX7_first 26 = .ok (.iload_n 3, 1) := by decide +kernel
theorem dX7_first_27 : decode cX7_first 27 = .ok (.sipush 200, 3) := by decide +kernel
theorem dX7_first_30 : decode cX7_first 30 = .ok (.if_icmp .gt 26, 3) := by decide +kernel
theorem dX7_first_33 : decode cX7_first 33 = .ok (.aload_n 0, 1) := by decide +kernel
theorem dX7_first_34 : decode cX7_first 34 = .ok (.getfield 9, 3) := by decide +kernel
theorem dX7_first_37 : decode cX7_first 37 = .ok (.bipush 13, 2) := by decide +kernel
theorem dX7_first_39 : decode cX7_first 39 = .ok (.iload_n 1, 1) := by decide +kernel
theorem dX7_first_40 : decode cX7_first 40 = .ok (.iadd, 1) := by decide +kernel
theorem dX7_first_41 : decode cX7_first 41 = .ok (.iaload, 1) := by decide +kernel
theorem dX7_first_42 : decode cX7_first 42 = .ok (.iload_n 2, 1) := by decide +kernel
theorem dX7_first_43 : decode cX7_first 43 = .ok (.if_icmp .eq 13, 3) := by decide +kernel
theorem dX7_first_46 : decode cX7_first 46 = .ok (.aload_n 0, 1) := by decide +kernel
theorem dX7_first_47 : decode cX7_first 47 = .ok (.invokevirtual 169, 3) := by decide +kernel
theorem dX7_first_50 : decode cX7_first 50 = .ok (.iinc 3 1, 3) := by decide +kernel
theorem dX7_first_53 : decode cX7_first 53 = .ok (.goto (-27), 3) := by decide +kernel
theorem dX7_first_56 : decode cX7_first 56 = .ok (.aload_n 0, 1) := by decide +kernel
theorem dX7_first_57 : decode cX7_first 57 = .ok (.invokevirtual 188, 3) := by decide +kernel
theorem dX7_first_60 : decode cX7_first 60 = .ok (.iload_n 3, 1) := by decide +kernel
theorem dX7_first_61 : decode cX7_first 61 = .ok (.sipush 200, 3) := by decide +kernel
theorem dX7_first_64 : decode cX7_first 64 = .ok (.if_icmp .le 8, 3) := by decide +kernel
theorem dX7_first_67 : decode cX7_first 67 = .ok (.ldc 191, 2) := by decide +kernel
theorem dX7_first_69 : decode cX7_first 69 = .ok (.goto 4, 3) := by decide +kernel
theorem dX7_first_72 : decode cX7_first 72 = .ok (.iload_n 3, 1) := by decide +kernel
theorem dX7_first_73 : decode cX7_first 73 = .ok (.ireturn, 1) := by decide +kernel
theorem dX7_isTold_0 : decode cX7_isTold 0 = .ok (.aload_n 0, 1) := by decide +kernel
theorem dX7_isTold_1 : decode cX7_isTold 1 = .ok (.iload_n 1, 1) := by decide +kernel
theorem dX7_isTold_2 : decode cX7_isTold 2 = .ok (.iconst 4, 1) := by decide +kernel
theorem dX7_isTold_3 : decode cX7_isTold 3 = .ok (.iload_n 2, 1) := by decide +kernel
theorem dX7_isTold_4 : decode cX7_isTold 4 = .ok (.iadd, 1) := by decide +kernel
theorem dX7_isTold_5 : decode cX7_isTold 5 = .ok (.iload_n 3, 1) := by decide +kernel
theorem dX7_isTold_6 : decode cX7_isTold 6 = .ok (.invokevirtual 115, 3) := by decide +kernel
theorem dX7_isTold_9 : decode cX7_isTold 9 = .ok (.aload_n 0, 1) := by decide +kernel
theorem dX7_isTold_10 : decode cX7_isTold 10 = .ok (.iload_n 1, 1) := by decide +kernel
theorem dX7_isTold_11 : decode cX7_isTold 11 = .ok (.iconst 3, 1) := by decide +kernel
theorem dX7_isTold_12 : decode cX7_isTold 12 = .ok (.bipush 99, 2) := by decide +kernel
theorem dX7_isTold_14 : decode cX7_isTold 14 = .ok (.invokevirtual 115, 3) := by decide +kernel
theorem dX7_isTold_17 : decode cX7_isTold 17 = .ok (.return_, 1) := by decide +kernel
theorem dX7_ear_0 : decode cX7_ear 0 = .ok (.iload_n 1, 1) := by decide +kernel
theorem dX7_ear_1 : decode cX7_ear 1 = .ok (.invokestatic 145, 3) := by decide +kernel
theorem dX7_ear_4 : decode cX7_ear 4 = .ok (.ifCond .eq 33, 3) := by decide +kernel
theorem dX7_ear_7 : decode cX7_ear 7 = .ok (.iload_n 2, 1) := by decide +kernel
theorem dX7_ear_8 : decode cX7_ear 8 = .ok (.iconst 1, 1) := by decide +kernel
theorem dX7_ear_9 : decode cX7_ear 9 = .ok (.bipush 9, 2) := by decide +kernel
theorem dX7_ear_11 : decode cX7_ear 11 = .ok (.invokestatic 75, 3) := by decide +kernel
theorem dX7_ear_14 : decode cX7_ear 14 = .ok (.ifCond .eq 23, 3) := by decide +kernel
theorem dX7_ear_17 : decode cX7_ear 17 = .ok (.iload_n 3, 1) := by decide +kernel
theorem dX7_ear_18 : decode cX7_ear 18 = .ok (.iconst 0, 1) := by decide +kernel
theorem dX7_ear_19 : decode cX7_ear 19 = .ok (.bipush 60, 2) := by decide +kernel
theorem dX7_ear_21 : decode cX7_ear 21 = .ok (.invokestatic 75, 3) := by decide +kernel
theorem dX7_ear_24 : decode cX7_ear 24 = .ok (.ifCond .eq 13, 3) := by decide +kernel
theorem dX7_ear_27 : decode cX7_ear 27 = .ok (.iload 4, 2) := by decide +kernel
theorem dX7_ear_29 : decode cX7_ear 29 = .ok (.iconst 0, 1) := by decide +kernel
theorem dX7_ear_30 : decode cX7_ear 30 = .ok (.iconst 1, 1) := by decide +kernel
theorem dX7_ear_31 : decode cX7_ear 31 = .ok (.invokestatic 75, 3) := by decide +kernel
theorem dX7_ear_34 : decode cX7_ear 34 = .ok (.ifCond .ne 6, 3) := by decide +kernel
theorem dX7_ear_37 : decode cX7_ear 37 = .ok (.ldc 119, 2) := by decide +kernel
theorem dX7_ear_39 : decode cX7_ear 39 = .ok (.ireturn, 1) := by decide +kernel
theorem dX7_ear_40 : decode cX7_ear 40 = .ok (.aload_n 0, 1) := by decide +kernel
theorem dX7_ear_41 : decode cX7_ear 41 = .ok (.invokevirtual 185, 3) := by decide +kernel
theorem dX7_ear_44 : decode cX7_ear 44 = .ok (.ldc 191, 2) := by decide +kernel
theorem dX7_ear_46 : decode cX7_ear 46 = .ok (.istore 5, 2) := by decide +kernel
theorem dX7_ear_48 : decode cX7_ear 48 = .ok (.iconst (-1), 1) := by decide +kernel
theorem dX7_ear_49 : decode cX7_ear 49 = .ok (.istore 6, 2) := by decide +kernel
theorem dX7_ear_51 : decode cX7_ear 51 = .ok (.iconst 0, 1) := by decide +kernel
theorem dX7_ear_52 : decode cX7_ear 52 = .ok (.istore 7, 2) := by decide +kernel
theorem dX7_ear_54 : decode cX7_ear 54 = .ok (.iload 7, 2) := by decide +kernel
theorem dX7_ear_56 : decode cX7_ear 56 = .ok (.aload_n 0, 1) := by decide +kernel
theorem dX7_ear_57 : decode cX7_ear 57 = .ok (.getfield 9, 3) := by decide +kernel
theorem dX7_ear_60 : decode cX7_ear 60 = .ok (.iconst 1, 1) := by decide +kernel
theorem dX7_ear_61 : decode cX7_ear 61 = .ok (.iaload, 1) := by decide +kernel
theorem dX7_ear_62 : decode cX7_ear 62 = .ok (.if_icmp .ge 66, 3) := by decide +kernel
theorem dX7_ear_65 : decode cX7_ear 65 = .ok (.aload_n 0, 1) := by decide +kernel
theorem dX7_ear_66 : decode cX7_ear 66 = .ok (.iload 7, 2) := by decide +kernel
theorem dX7_ear_68 : decode cX7_ear 68 = .ok (.iload_n 1, 1) := by decide +kernel
theorem dX7_ear_69 : decode cX7_ear 69 = .ok (.iload_n 2, 1) := by decide +kernel
theorem dX7_ear_70 : decode cX7_ear 70 = .ok (.invokevirtual 192, 3) := by decide +kernel
theorem dX7_ear_73 : decode cX7_ear 73 = .ok (.aload_n 0, 1) := by decide +kernel
theorem dX7_ear_74 : decode cX7_ear 74 = .ok (.iload_n 3, 1) := by decide +kernel
theorem dX7_ear_75 : decode cX7_ear 75 = .ok (.invokevirtual 172, 3) := by decide +kernel
theorem dX7_ear_78 : decode cX7_ear 78 = .ok (.aload_n 0, 1) := by decide +kernel
theorem dX7_ear_79 : decode cX7_ear 79 = .ok (.iload_n 1, 1) := by decide +kernel
theorem dX7_ear_80 : decode cX7_ear 80 = .ok (.iload_n 2, 1) := by decide +kernel
theorem dX7_ear_81 : decode cX7_ear 81 = .ok (.invokevirtual 90, 3) := by decide +kernel
theorem dX7_ear_84 : decode cX7_ear 84 = .ok (.istore 8, 2) := by decide +kernel
theorem dX7_ear_86 : decode cX7_ear 86 = .ok (.iload 8, 2) := by decide +kernel
theorem dX7_ear_88 : decode cX7_ear 88 = .ok (.iload 6, 2) := by decide +kernel
theorem dX7_ear_90 : decode cX7_ear 90 = .ok (.if_icmp .le 8, 3) := by decide +kernel
theorem dX7_ear_93 : decode cX7_ear 93 = .ok (.iload 7, 2) := by decide +kernel
theorem dX7_ear_95 : decode cX7_ear 95 = .ok (.goto 5, 3) := by decide +kernel
theorem dX7_ear_98 : decode cX7_ear 98 = .ok (.iload 5, 2) := by decide +kernel
theorem dX7_ear_100 : decode cX7_ear 100 = .ok (.istore 5, 2) := by decide +kernel
theorem dX7_ear_102 : decode cX7_ear 102 = .ok (.iload 8, 2) := by decide +kernel
theorem dX7_ear_104 : decode cX7_ear 104 = .ok (.iload 6, 2) := by decide +kernel
theorem dX7_ear_106 : decode cX7_ear 106 = .ok (.if_icmp .le 8, 3) := by decide +kernel
theorem dX7_ear_109 : decode cX7_ear 109 = .ok (.iload 8, 2) := by decide +kernel
theorem dX7_ear_111 : decode cX7_ear 111 = .ok (.goto 5, 3) := by decide +kernel
theorem dX7_ear_114 : decode cX7_ear 114 = .ok (.iload 6, 2) := by decide +kernel
theorem dX7_ear_116 : decode cX7_ear 116 = .ok (.istore 6, 2) := by decide +kernel
theorem dX7_ear_118 : decode cX7_ear 118 = .ok (.aload_n 0, 1) := by decide +kernel
theorem dX7_ear_119 : decode cX7_ear 119 = .ok (.invokevirtual 188, 3) := by decide +kernel
theorem dX7_ear_122 : decode cX7_ear 122 = .ok (.iinc 7 1, 3) := by decide +kernel
theorem dX7_ear_125 : decode cX7_ear 125 = .ok (.goto (-71), 3) := by decide +kernel
theorem dX7_ear_128 : decode cX7_ear 128 = .ok (.iload 5, 2) := by decide +kernel
theorem dX7_ear_130 : decode cX7_ear 130 = .ok (.ldc 191, 2) := by decide +kernel
theorem dX7_ear_132 : decode cX7_ear 132 = .ok (.if_icmp .ne 8, 3) := by decide +kernel
theorem dX7_ear_135 : decode cX7_ear 135 = .ok (.ldc 191, 2) := by decide +kernel
theorem dX7_ear_137 : decode cX7_ear 137 = .ok (.goto 15, 3) := by decide +kernel
theorem dX7_ear_140 : decode cX7_ear 140 = .ok (.iload 4, 2) := by decide +kernel
theorem dX7_ear_142 : decode cX7_ear 142 = .ok (.ifCond .ne 8, 3) := by decide +kernel
theorem dX7_ear_145 : decode cX7_ear 145 = .ok (.iload 5, 2) := by decide +kernel
theorem dX7_ear_147 : decode cX7_ear 147 = .ok (.goto 5, 3) := by decide +kernel
theorem dX7_ear_150 : decode cX7_ear 150 = .ok (.iload 6, 2) := by decide +kernel
theorem dX7_ear_152 : decode cX7_ear 152 = .ok (.ireturn, 1) := by decide +kernel
theorem dX7_doesGrow_0 : decode cX7_doesGrow 0 = .ok (.iconst 0, 1) := by decide +kernel
theorem dX7_doesGrow_1 : decode cX7_doesGrow 1 = .ok (.istore 5, 2) := by decide +kernel
theorem dX7_doesGrow_3 : decode cX7_doesGrow 3 = .ok (.iload 5, 2) := by decide +kernel
theorem dX7_doesGrow_5 : decode cX7_doesGrow 5 = .ok (.aload_n 0, 1) := by decide +kernel
theorem dX7_doesGrow_6 : decode cX7_doesGrow 6 = .ok (.getfield 9, 3) := by decide +kernel
theorem dX7_doesGrow_9 : decode cX7_doesGrow 9 = .ok (.iconst 1, 1) := by decide +kernel
theorem dX7_doesGrow_10 : decode cX7_doesGrow 10 = .ok (.iaload, 1) := by decide +kernel
theorem dX7_doesGrow_11 : decode cX7_doesGrow 11 = .ok (.if_icmp .ge 27, 3) := by decide +kernel
theorem dX7_doesGrow_14 : decode cX7_doesGrow 14 = .ok (.iload_n 1, 1) := by decide +kernel
theorem dX7_doesGrow_15 : decode cX7_doesGrow 15 = .ok (.iload 5, 2) := by decide +kernel
theorem dX7_doesGrow_17 : decode cX7_doesGrow 17 = .ok (.ishr, 1) := by decide +kernel
theorem dX7_doesGrow_18 : decode cX7_doesGrow 18 = .ok (.iconst 1, 1) := by decide +kernel
theorem dX7_doesGrow_19 : decode cX7_doesGrow 19 = .ok (.iand, 1) := by decide +kernel
theorem dX7_doesGrow_20 : decode cX7_doesGrow 20 = .ok (.iconst 1, 1) := by decide +kernel
theorem dX7_doesGrow_21 : decode cX7_doesGrow 21 = .ok (.if_icmp .ne 11, 3) := by decide +kernel
theorem dX7_doesGrow_24 : decode cX7_doesGrow 24 = .ok (.aload_n 0, 1) := by decide +kernel
theorem dX7_doesGrow_25 : decode cX7_doesGrow 25 = .ok (.iload 5, 2) := by decide +kernel
theorem dX7_doesGrow_27 : decode cX7_doesGrow 27 = .ok (.iload_n 2, 1) := by decide +kernel
theorem dX7_doesGrow_28 : decode cX7_doesGrow 28 = .ok (.iload_n 3, 1) := by decide +kernel
theorem dX7_doesGrow_29 : decode cX7_doesGrow 29 = .ok (.invokevirtual 192, 3) := by decide +kernel
theorem dX7_doesGrow_32 : decode cX7_doesGrow 32 = .ok (.iinc 5 1, 3) := by decide +kernel
theorem dX7_doesGrow_35 : decode cX7_doesGrow 35 = .ok (.goto (-32), 3) := by decide +kernel
theorem dX7_doesGrow_38 : decode cX7_doesGrow 38 = .ok (.aload_n 0, 1) := by decide +kernel
theorem dX7_doesGrow_39 : decode cX7_doesGrow 39 = .ok (.iload 4, 2) := by decide +kernel
theorem dX7_doesGrow_41 : decode cX7_doesGrow 41 = .ok (.invokevirtual 172, 3) := by decide +kernel
theorem dX7_doesGrow_44 : decode cX7_doesGrow 44 = .ok (.aload_n 0, 1) := by decide +kernel
theorem dX7_doesGrow_45 : decode cX7_doesGrow 45 = .ok (.iload_n 2, 1) := by decide +kernel
theorem dX7_doesGrow_46 : decode cX7_doesGrow 46 = .ok (.invokevirtual 93, 3) := by decide +kernel
theorem dX7_doesGrow_49 : decode cX7_doesGrow 49 = .ok (.iload_n 3, 1) := by decide +kernel
theorem dX7_doesGrow_50 : decode cX7_doesGrow 50 = .ok (.if_icmp .ne 7, 3) := by decide +kernel
theorem dX7_doesGrow_53 : decode cX7_doesGrow 53 = .ok (.iconst 1, 1) := by decide +kernel
theorem dX7_doesGrow_54 : decode cX7_doesGrow 54 = .ok (.goto 4, 3) := by decide +kernel
theorem dX7_doesGrow_57 : decode cX7_doesGrow 57 = .ok (.iconst 0, 1) := by decide +kernel
theorem dX7_doesGrow_58 : decode cX7_doesGrow 58 = .ok (.istore 5, 2) := by decide +kernel
theorem dX7_doesGrow_60 : decode cX7_doesGrow 60 = .ok (.aload_n 0, 1) := by decide +kernel
theorem dX7_doesGrow_61 : decode cX7_doesGrow 61 = .ok (.invokevirtual 188, 3) := by decide +kernel
theorem dX7_doesGrow_64 : decode cX7_doesGrow 64 = .ok (.iload 5, 2) := by decide +kernel
theorem dX7_doesGrow_66 : decode cX7_doesGrow 66 = .ok (.ireturn, 1) := by decide +kernel
theorem dX7_fewest_0 : decode cX7_fewest 0 = .ok (.iload_n 1, 1) := by decide +kernel
theorem dX7_fewest_1 : decode cX7_fewest 1 = .ok (.invokestatic 145, 3) := by decide +kernel
theorem dX7_fewest_4 : decode cX7_fewest 4 = .ok (.ifCond .eq 23, 3) := by decide +kernel
theorem dX7_fewest_7 : decode cX7_fewest 7 = .ok (.iload_n 2, 1) := by decide +kernel
theorem dX7_fewest_8 : decode cX7_fewest 8 = .ok (.iconst 1, 1) := by decide +kernel
theorem dX7_fewest_9 : decode cX7_fewest 9 = .ok (.bipush 9, 2) := by decide +kernel
theorem dX7_fewest_11 : decode cX7_fewest 11 = .ok (.invokestatic 75, 3) := by decide +kernel
theorem dX7_fewest_14 : decode cX7_fewest 14 = .ok (.ifCond .eq 13, 3) := by decide +kernel
theorem dX7_fewest_17 : decode cX7_fewest 17 = .ok (.iload_n 3, 1) := by decide +kernel
theorem dX7_fewest_18 : decode cX7_fewest 18 = .ok (.iconst 0, 1) := by decide +kernel
theorem dX7_fewest_19 : decode cX7_fewest 19 = .ok (.bipush 12, 2) := by decide +kernel
theorem dX7_fewest_21 : decode cX7_fewest 21 = .ok (.invokestatic 75, 3) := by decide +kernel
theorem dX7_fewest_24 : decode cX7_fewest 24 = .ok (.ifCond .ne 6, 3) := by decide +kernel
theorem dX7_fewest_27 : decode cX7_fewest 27 = .ok (.ldc 119, 2) := by decide +kernel
theorem dX7_fewest_29 : decode cX7_fewest 29 = .ok (.ireturn, 1) := by decide +kernel
theorem dX7_fewest_30 : decode cX7_fewest 30 = .ok (.aload_n 0, 1) := by decide +kernel
theorem dX7_fewest_31 : decode cX7_fewest 31 = .ok (.invokevirtual 185, 3) := by decide +kernel
theorem dX7_fewest_34 : decode cX7_fewest 34 = .ok (.ldc 191, 2) := by decide +kernel
theorem dX7_fewest_36 : decode cX7_fewest 36 = .ok (.istore 4, 2) := by decide +kernel
theorem dX7_fewest_38 : decode cX7_fewest 38 = .ok (.iconst 0, 1) := by decide +kernel
theorem dX7_fewest_39 : decode cX7_fewest 39 = .ok (.istore 5, 2) := by decide +kernel
theorem dX7_fewest_41 : decode cX7_fewest 41 = .ok (.iload 5, 2) := by decide +kernel
theorem dX7_fewest_43 : decode cX7_fewest 43 = .ok (.iconst 1, 1) := by decide +kernel
theorem dX7_fewest_44 : decode cX7_fewest 44 = .ok (.aload_n 0, 1) := by decide +kernel
theorem dX7_fewest_45 : decode cX7_fewest 45 = .ok (.getfield 9, 3) := by decide +kernel
theorem dX7_fewest_48 : decode cX7_fewest 48 = .ok (.iconst 1, 1) := by decide +kernel
theorem dX7_fewest_49 : decode cX7_fewest 49 = .ok (.iaload, 1) := by decide +kernel
theorem dX7_fewest_50 : decode cX7_fewest 50 = .ok (.ishl, 1) := by decide +kernel
theorem dX7_fewest_51 : decode cX7_fewest 51 = .ok (.if_icmp .ge 62, 3) := by decide +kernel
theorem dX7_fewest_54 : decode cX7_fewest 54 = .ok (.iload 4, 2) := by decide +kernel
theorem dX7_fewest_56 : decode cX7_fewest 56 = .ok (.ldc 191, 2) := by decide +kernel
theorem dX7_fewest_58 : decode cX7_fewest 58 = .ok (.if_icmp .eq 16, 3) := by decide +kernel
theorem dX7_fewest_61 : decode cX7_fewest 61 = .ok (.iload 5, 2) := by decide +kernel
theorem dX7_fewest_63 : decode cX7_fewest 63 = .ok (.invokestatic 99, 3) := by decide +kernel
theorem dX7_fewest_66 : decode cX7_fewest 66 = .ok (.iload 4, 2) := by decide +kernel
theorem dX7_fewest_68 : decode cX7_fewest 68 = .ok (.invokestatic 99, 3) := by decide +kernel
theorem dX7_fewest_71 : decode cX7_fewest 71 = .ok (.if_icmp .ge 7, 3) := by decide +kernel
theorem dX7_fewest_74 : decode cX7_fewest 74 = .ok (.iconst 1, 1) := by decide +kernel
theorem dX7_fewest_75 : decode cX7_fewest 75 = .ok (.goto 4, 3) := by decide +kernel
theorem dX7_fewest_78 : decode cX7_fewest 78 = .ok (.iconst 0, 1) := by decide +kernel
theorem dX7_fewest_79 : decode cX7_fewest 79 = .ok (.istore 6, 2) := by decide +kernel
theorem dX7_fewest_81 : decode cX7_fewest 81 = .ok (.iload 6, 2) := by decide +kernel
theorem dX7_fewest_83 : decode cX7_fewest 83 = .ok (.ifCond .eq 20, 3) := by decide +kernel
theorem dX7_fewest_86 : decode cX7_fewest 86 = .ok (.aload_n 0, 1) := by decide +kernel
theorem dX7_fewest_87 : decode cX7_fewest 87 = .ok (.iload 5, 2) := by decide +kernel
theorem dX7_fewest_89 : decode cX7_fewest 89 = .ok (.iload_n 1, 1) := by decide +kernel
theorem dX7_fewest_90 : decode cX7_fewest 90 = .ok (.iload_n 2, 1) := by decide +kernel
theorem dX7_fewest_91 : decode cX7_fewest 91 = .ok (.iload_n 3, 1) := by decide +kernel
theorem dX7_fewest_92 : decode cX7_fewest 92 = .ok (.invokevirtual 195, 3) := by decide +kernel
theorem dX7_fewest_95 : decode cX7_fewest 95 = .ok (.ifCond .eq 8, 3) := by decide +kernel
theorem dX7_fewest_98 : decode cX7_fewest 98 = .ok (.iload 5, 2) := by decide +kernel
theorem dX7_fewest_100 : decode cX7_fewest 100 = .ok (.goto 5, 3) := by decide +kernel
theorem dX7_fewest_103 : decode cX7_fewest 103 = .ok (.iload 4, 2) := by decide +kernel
theorem dX7_fewest_105 : decode cX7_fewest 105 = .ok (.istore 4, 2) := by decide +kernel
theorem dX7_fewest_107 : decode cX7_fewest 107 = .ok (.iinc 5 1, 3) := by decide +kernel
theorem dX7_fewest_110 : decode cX7_fewest 110 = .ok (.goto (-69), 3) := by decide +kernel
theorem dX7_fewest_113 : decode cX7_fewest 113 = .ok (.iload 4, 2) := by decide +kernel
theorem dX7_fewest_115 : decode cX7_fewest 115 = .ok (.ireturn, 1) := by decide +kernel
theorem dX7_house_0 : decode cX7_house 0 = .ok (.aload_n 0, 1) := by decide +kernel
theorem dX7_house_1 : decode cX7_house 1 = .ok (.iload_n 1, 1) := by decide +kernel
theorem dX7_house_2 : decode cX7_house 2 = .ok (.invokevirtual 128, 3) := by decide +kernel
theorem dX7_house_5 : decode cX7_house 5 = .ok (.ifCond .eq 22, 3) := by decide +kernel
theorem dX7_house_8 : decode cX7_house 8 = .ok (.iload_n 2, 1) := by decide +kernel
theorem dX7_house_9 : decode cX7_house 9 = .ok (.iconst 1, 1) := by decide +kernel
theorem dX7_house_10 : decode cX7_house 10 = .ok (.bipush 60, 2) := by decide +kernel
theorem dX7_house_12 : decode cX7_house 12 = .ok (.invokestatic 75, 3) := by decide +kernel
theorem dX7_house_15 : decode cX7_house 15 = .ok (.ifCond .eq 12, 3) := by decide +kernel
theorem dX7_house_18 : decode cX7_house 18 = .ok (.iload_n 3, 1) := by decide +kernel
theorem dX7_house_19 : decode cX7_house 19 = .ok (.iconst 0, 1) := by decide +kernel
theorem dX7_house_20 : decode cX7_house 20 = .ok (.iconst 1, 1) := by decide +kernel
theorem dX7_house_21 : decode cX7_house 21 = .ok (.invokestatic 75, 3) := by decide +kernel
theorem dX7_house_24 : decode cX7_house 24 = .ok (.ifCond .ne 6, 3) := by decide +kernel
theorem dX7_house_27 : decode cX7_house 27 = .ok (.ldc 119, 2) := by decide +kernel
theorem dX7_house_29 : decode cX7_house 29 = .ok (.ireturn, 1) := by decide +kernel
theorem dX7_house_30 : decode cX7_house 30 = .ok (.aload_n 0, 1) := by decide +kernel
theorem dX7_house_31 : decode cX7_house 31 = .ok (.invokevirtual 185, 3) := by decide +kernel
theorem dX7_house_34 : decode cX7_house 34 = .ok (.iconst 0, 1) := by decide +kernel
theorem dX7_house_35 : decode cX7_house 35 = .ok (.istore 4, 2) := by decide +kernel
theorem dX7_house_37 : decode cX7_house 37 = .ok (.iconst (-1), 1) := by decide +kernel
theorem dX7_house_38 : decode cX7_house 38 = .ok (.istore 5, 2) := by decide +kernel
theorem dX7_house_40 : decode cX7_house 40 = .ok (.iconst 0, 1) := by decide +kernel
theorem dX7_house_41 : decode cX7_house 41 = .ok (.istore 6, 2) := by decide +kernel
theorem dX7_house_43 : decode cX7_house 43 = .ok (.iload 6, 2) := by decide +kernel
theorem dX7_house_45 : decode cX7_house 45 = .ok (.bipush 8, 2) := by decide +kernel
theorem dX7_house_47 : decode cX7_house 47 = .ok (.if_icmp .ge 66, 3) := by decide +kernel
theorem dX7_house_50 : decode cX7_house 50 = .ok (.aload_n 0, 1) := by decide +kernel
theorem dX7_house_51 : decode cX7_house 51 = .ok (.iload_n 1, 1) := by decide +kernel
theorem dX7_house_52 : decode cX7_house 52 = .ok (.iconst 1, 1) := by decide +kernel
theorem dX7_house_53 : decode cX7_house 53 = .ok (.iload 6, 2) := by decide +kernel
theorem dX7_house_55 : decode cX7_house 55 = .ok (.invokevirtual 115, 3) := by decide +kernel
theorem dX7_house_58 : decode cX7_house 58 = .ok (.aload_n 0, 1) := by decide +kernel
theorem dX7_house_59 : decode cX7_house 59 = .ok (.iload_n 2, 1) := by decide +kernel
theorem dX7_house_60 : decode cX7_house 60 = .ok (.invokevirtual 172, 3) := by decide +kernel
theorem dX7_house_63 : decode cX7_house 63 = .ok (.aload_n 0, 1) := by decide +kernel
theorem dX7_house_64 : decode cX7_house 64 = .ok (.getfield 9, 3) := by decide +kernel
theorem dX7_house_67 : decode cX7_house 67 = .ok (.iconst 3, 1) := by decide +kernel
theorem dX7_house_68 : decode cX7_house 68 = .ok (.iaload, 1) := by decide +kernel
theorem dX7_house_69 : decode cX7_house 69 = .ok (.istore 7, 2) := by decide +kernel
theorem dX7_house_71 : decode cX7_house 71 = .ok (.iload 7, 2) := by decide +kernel
theorem dX7_house_73 : decode cX7_house 73 = .ok (.iload 5, 2) := by decide +kernel
theorem dX7_house_75 : decode cX7_house 75 = .ok (.if_icmp .le 8, 3) := by decide +kernel
theorem dX7_house_78 : decode cX7_house 78 = .ok (.iload 6, 2) := by decide +kernel
theorem dX7_house_80 : decode cX7_house 80 = .ok (.goto 5, 3) := by decide +kernel
theorem dX7_house_83 : decode cX7_house 83 = .ok (.iload 4, 2) := by decide +kernel
theorem dX7_house_85 : decode cX7_house 85 = .ok (.istore 4, 2) := by decide +kernel
theorem dX7_house_87 : decode cX7_house 87 = .ok (.iload 7, 2) := by decide +kernel
theorem dX7_house_89 : decode cX7_house 89 = .ok (.iload 5, 2) := by decide +kernel
theorem dX7_house_91 : decode cX7_house 91 = .ok (.if_icmp .le 8, 3) := by decide +kernel
theorem dX7_house_94 : decode cX7_house 94 = .ok (.iload 7, 2) := by decide +kernel
theorem dX7_house_96 : decode cX7_house 96 = .ok (.goto 5, 3) := by decide +kernel
theorem dX7_house_99 : decode cX7_house 99 = .ok (.iload 5, 2) := by decide +kernel
theorem dX7_house_101 : decode cX7_house 101 = .ok (.istore 5, 2) := by decide +kernel
theorem dX7_house_103 : decode cX7_house 103 = .ok (.aload_n 0, 1) := by decide +kernel
theorem dX7_house_104 : decode cX7_house 104 = .ok (.invokevirtual 188, 3) := by decide +kernel
theorem dX7_house_107 : decode cX7_house 107 = .ok (.iinc 6 1, 3) := by decide +kernel
theorem dX7_house_110 : decode cX7_house 110 = .ok (.goto (-67), 3) := by decide +kernel
theorem dX7_house_113 : decode cX7_house 113 = .ok (.iload_n 3, 1) := by decide +kernel
theorem dX7_house_114 : decode cX7_house 114 = .ok (.ifCond .ne 8, 3) := by decide +kernel
theorem dX7_house_117 : decode cX7_house 117 = .ok (.iload 4, 2) := by decide +kernel
theorem dX7_house_119 : decode cX7_house 119 = .ok (.goto 5, 3) := by decide +kernel
theorem dX7_house_122 : decode cX7_house 122 = .ok (.iload 5, 2) := by decide +kernel
theorem dX7_house_124 : decode cX7_house 124 = .ok (.ireturn, 1) := by decide +kernel
theorem dX7_becomes_0 : decode cX7_becomes 0 = .ok (.aload_n 0, 1) := by decide +kernel
theorem dX7_becomes_1 : decode cX7_becomes 1 = .ok (.iload_n 1, 1) := by decide +kernel
theorem dX7_becomes_2 : decode cX7_becomes 2 = .ok (.invokevirtual 128, 3) := by decide +kernel
theorem dX7_becomes_5 : decode cX7_becomes 5 = .ok (.ifCond .eq 22, 3) := by decide +kernel
theorem dX7_becomes_8 : decode cX7_becomes 8 = .ok (.iload_n 2, 1) := by decide +kernel
theorem dX7_becomes_9 : decode cX7_becomes 9 = .ok (.iconst 1, 1) := by decide +kernel
theorem dX7_becomes_10 : decode cX7_becomes 10 = .ok (.bipush 60, 2) := by decide +kernel
theorem dX7_becomes_12 : decode cX7_becomes 12 = .ok (.invokestatic 75, 3) := by decide +kernel
theorem dX7_becomes_15 : decode cX7_becomes 15 = .ok (.ifCond .eq 12, 3) := by decide +kernel
theorem dX7_becomes_18 : decode cX7_becomes 18 = .ok (.iload_n 3, 1) := by decide +kernel
theorem dX7_becomes_19 : decode cX7_becomes 19 = .ok (.iconst 0, 1) := by decide +kernel
theorem dX7_becomes_20 : decode cX7_becomes 20 = .ok (.iconst 1, 1) := by decide +kernel
theorem dX7_becomes_21 : decode cX7_becomes 21 = .ok (.invokestatic 75, 3) := by decide +kernel
theorem dX7_becomes_24 : decode cX7_becomes 24 = .ok (.ifCond .ne 6, 3) := by decide +kernel
theorem dX7_becomes_27 : decode cX7_becomes 27 = .ok (.ldc 119, 2) := by decide +kernel
theorem dX7_becomes_29 : decode cX7_becomes 29 = .ok (.ireturn, 1) := by decide +kernel
theorem dX7_becomes_30 : decode cX7_becomes 30 = .ok (.aload_n 0, 1) := by decide +kernel
theorem dX7_becomes_31 : decode cX7_becomes 31 = .ok (.invokevirtual 185, 3) := by decide +kernel
theorem dX7_becomes_34 : decode cX7_becomes 34 = .ok (.iconst 0, 1) := by decide +kernel
theorem dX7_becomes_35 : decode cX7_becomes 35 = .ok (.istore 4, 2) := by decide +kernel
theorem dX7_becomes_37 : decode cX7_becomes 37 = .ok (.iconst (-1), 1) := by decide +kernel
theorem dX7_becomes_38 : decode cX7_becomes 38 = .ok (.istore 5, 2) := by decide +kernel
theorem dX7_becomes_40 : decode cX7_becomes 40 = .ok (.iconst 0, 1) := by decide +kernel
theorem dX7_becomes_41 : decode cX7_becomes 41 = .ok (.istore 6, 2) := by decide +kernel
theorem dX7_becomes_43 : decode cX7_becomes 43 = .ok (.iload 6, 2) := by decide +kernel
theorem dX7_becomes_45 : decode cX7_becomes 45 = .ok (.iconst 5, 1) := by decide +kernel
theorem dX7_becomes_46 : decode cX7_becomes 46 = .ok (.if_icmp .gt 76, 3) := by decide +kernel
theorem dX7_becomes_49 : decode cX7_becomes 49 = .ok (.aload_n 0, 1) := by decide +kernel
theorem dX7_becomes_50 : decode cX7_becomes 50 = .ok (.iload_n 1, 1) := by decide +kernel
theorem dX7_becomes_51 : decode cX7_becomes 51 = .ok (.iconst 0, 1) := by decide +kernel
theorem dX7_becomes_52 : decode cX7_becomes 52 = .ok (.iload 6, 2) := by decide +kernel
theorem dX7_becomes_54 : decode cX7_becomes 54 = .ok (.invokevirtual 115, 3) := by decide +kernel
theorem dX7_becomes_57 : decode cX7_becomes 57 = .ok (.aload_n 0, 1) := by decide +kernel
theorem dX7_becomes_58 : decode cX7_becomes 58 = .ok (.iload_n 2, 1) := by decide +kernel
theorem dX7_becomes_59 : decode cX7_becomes 59 = .ok (.invokevirtual 172, 3) := by decide +kernel
theorem dX7_becomes_62 : decode cX7_becomes 62 = .ok (.aload_n 0, 1) := by decide +kernel
theorem dX7_becomes_63 : decode cX7_becomes 63 = .ok (.getfield 9, 3) := by decide +kernel
theorem dX7_becomes_66 : decode cX7_becomes 66 = .ok (.iconst 4, 1) := by decide +kernel
theorem dX7_becomes_67 : decode cX7_becomes 67 = .ok (.iaload, 1) := by decide +kernel
theorem dX7_becomes_68 : decode cX7_becomes 68 = .ok (.istore 7, 2) := by decide +kernel
theorem dX7_becomes_70 : decode cX7_becomes 70 = .ok (.iload 5, 2) := by decide +kernel
theorem dX7_becomes_72 : decode cX7_becomes 72 = .ok (.ifCond .lt 10, 3) := by decide +kernel
theorem dX7_becomes_75 : decode cX7_becomes 75 = .ok (.iload 7, 2) := by decide +kernel
theorem dX7_becomes_77 : decode cX7_becomes 77 = .ok (.iload 5, 2) := by decide +kernel
theorem dX7_becomes_79 : decode cX7_becomes 79 = .ok (.if_icmp .ge 8, 3) := by decide +kernel
theorem dX7_becomes_82 : decode cX7_becomes 82 = .ok (.iload 6, 2) := by decide +kernel
theorem dX7_becomes_84 : decode cX7_becomes 84 = .ok (.goto 5, 3) := by decide +kernel
theorem dX7_becomes_87 : decode cX7_becomes 87 = .ok (.iload 4, 2) := by decide +kernel
theorem dX7_becomes_89 : decode cX7_becomes 89 = .ok (.istore 4, 2) := by decide +kernel
theorem dX7_becomes_91 : decode cX7_becomes 91 = .ok (.iload 5, 2) := by decide +kernel
theorem dX7_becomes_93 : decode cX7_becomes 93 = .ok (.ifCond .lt 10, 3) := by decide +kernel
theorem dX7_becomes_96 : decode cX7_becomes 96 = .ok (.iload 7, 2) := by decide +kernel
theorem dX7_becomes_98 : decode cX7_becomes 98 = .ok (.iload 5, 2) := by decide +kernel
theorem dX7_becomes_100 : decode cX7_becomes 100 = .ok (.if_icmp .ge 8, 3) := by decide +kernel
theorem dX7_becomes_103 : decode cX7_becomes 103 = .ok (.iload 7, 2) := by decide +kernel
theorem dX7_becomes_105 : decode cX7_becomes 105 = .ok (.goto 5, 3) := by decide +kernel
theorem dX7_becomes_108 : decode cX7_becomes 108 = .ok (.iload 5, 2) := by decide +kernel
theorem dX7_becomes_110 : decode cX7_becomes 110 = .ok (.istore 5, 2) := by decide +kernel
theorem dX7_becomes_112 : decode cX7_becomes 112 = .ok (.aload_n 0, 1) := by decide +kernel
theorem dX7_becomes_113 : decode cX7_becomes 113 = .ok (.invokevirtual 188, 3) := by decide +kernel
theorem dX7_becomes_116 : decode cX7_becomes 116 = .ok (.iinc 6 1, 3) := by decide +kernel
theorem dX7_becomes_119 : decode cX7_becomes 119 = .ok (.goto (-76), 3) := by decide +kernel
theorem dX7_becomes_122 : decode cX7_becomes 122 = .ok (.iload_n 3, 1) := by decide +kernel
theorem dX7_becomes_123 : decode cX7_becomes 123 = .ok (.ifCond .ne 8, 3) := by decide +kernel
theorem dX7_becomes_126 : decode cX7_becomes 126 = .ok (.iload 4, 2) := by decide +kernel
theorem dX7_becomes_128 : decode cX7_becomes 128 = .ok (.goto 5, 3) := by decide +kernel
theorem dX7_becomes_131 : decode cX7_becomes 131 = .ok (.iload 5, 2) := by decide +kernel
theorem dX7_becomes_133 : decode cX7_becomes 133 = .ok (.ireturn, 1) := by decide +kernel
theorem dX7_like_0 : decode cX7_like 0 = .ok (.iload_n 1, 1) := by decide +kernel
theorem dX7_like_1 : decode cX7_like 1 = .ok (.invokestatic 199, 3) := by decide +kernel
theorem dX7_like_4 : decode cX7_like 4 = .ok (.ifCond .eq 12, 3) := by decide +kernel
theorem dX7_like_7 : decode cX7_like 7 = .ok (.iload_n 2, 1) := by decide +kernel
theorem dX7_like_8 : decode cX7_like 8 = .ok (.iconst 0, 1) := by decide +kernel
theorem dX7_like_9 : decode cX7_like 9 = .ok (.iconst 1, 1) := by decide +kernel
theorem dX7_like_10 : decode cX7_like 10 = .ok (.invokestatic 75, 3) := by decide +kernel
theorem dX7_like_13 : decode cX7_like 13 = .ok (.ifCond .ne 6, 3) := by decide +kernel
theorem dX7_like_16 : decode cX7_like 16 = .ok (.ldc 119, 2) := by decide +kernel
theorem dX7_like_18 : decode cX7_like 18 = .ok (.ireturn, 1) := by decide +kernel
theorem dX7_like_19 : decode cX7_like 19 = .ok (.aload_n 0, 1) := by decide +kernel
theorem dX7_like_20 : decode cX7_like 20 = .ok (.getfield 48, 3) := by decide +kernel
theorem dX7_like_23 : decode cX7_like 23 = .ok (.iload_n 1, 1) := by decide +kernel
theorem dX7_like_24 : decode cX7_like 24 = .ok (.iaload, 1) := by decide +kernel
theorem dX7_like_25 : decode cX7_like 25 = .ok (.ifCond .ge 6, 3) := by decide +kernel
theorem dX7_like_28 : decode cX7_like 28 = .ok (.ldc 202, 2) := by decide +kernel
theorem dX7_like_30 : decode cX7_like 30 = .ok (.ireturn, 1) := by decide +kernel
theorem dX7_like_31 : decode cX7_like 31 = .ok (.aload_n 0, 1) := by decide +kernel
theorem dX7_like_32 : decode cX7_like 32 = .ok (.invokevirtual 185, 3) := by decide +kernel
theorem dX7_like_35 : decode cX7_like 35 = .ok (.iconst 0, 1) := by decide +kernel
theorem dX7_like_36 : decode cX7_like 36 = .ok (.istore_n 3, 1) := by decide +kernel
theorem dX7_like_37 : decode cX7_like 37 = .ok (.iload_n 3, 1) := by decide +kernel
theorem dX7_like_38 : decode cX7_like 38 = .ok (.bipush 6, 2) := by decide +kernel
theorem dX7_like_40 : decode cX7_like 40 = .ok (.if_icmp .ge 16, 3) := by decide +kernel
theorem dX7_like_43 : decode cX7_like 43 = .ok (.aload_n 0, 1) := by decide +kernel
theorem dX7_like_44 : decode cX7_like 44 = .ok (.getfield 19, 3) := by decide +kernel
theorem dX7_like_47 : decode cX7_like 47 = .ok (.iload_n 3, 1) := by decide +kernel
theorem dX7_like_48 : decode cX7_like 48 = .ok (.iconst 0, 1) := by decide +kernel
theorem dX7_like_49 : decode cX7_like 49 = .ok (.iastore, 1) := by decide +kernel
theorem dX7_like_50 : decode cX7_like 50 = .ok (.iinc 3 1, 3) := by decide +kernel
theorem dX7_like_53 : decode cX7_like 53 = .ok (.goto (-16), 3) := by decide +kernel
theorem dX7_like_56 : decode cX7_like 56 = .ok (.iconst 0, 1) := by decide +kernel
theorem dX7_like_57 : decode cX7_like 57 = .ok (.istore_n 3, 1) := by decide +kernel
theorem dX7_like_58 : decode cX7_like 58 = .ok (.iload_n 3, 1) := by decide +kernel
theorem dX7_like_59 : decode cX7_like 59 = .ok (.aload_n 0, 1) := by decide +kernel
theorem dX7_like_60 : decode cX7_like 60 = .ok (.getfield 51, 3) := by decide +kernel
theorem dX7_like_63 : decode cX7_like 63 = .ok (.iload_n 1, 1) := by decide +kernel
theorem dX7_like_64 : decode cX7_like 64 = .ok (.iaload, 1) := by decide +kernel
theorem dX7_like_65 : decode cX7_like 65 = .ok (.if_icmp .ge 71, 3) := by decide +kernel
theorem dX7_like_68 : decode cX7_like 68 = .ok (.aload_n 0, 1) := by decide +kernel
theorem dX7_like_69 : decode cX7_like 69 = .ok (.getfield 54, 3) := by decide +kernel
theorem dX7_like_72 : decode cX7_like 72 = .ok (.bipush 24, 2) := by decide +kernel
theorem dX7_like_74 : decode cX7_like 74 = .ok (.iload_n 1, 1) := by decide +kernel
theorem dX7_like_75 : decode cX7_like 75 = .ok (.imul, 1) := by decide +kernel
theorem dX7_like_76 : decode cX7_like 76 = .ok (.iload_n 3, 1) := by decide +kernel
theorem dX7_like_77 : decode cX7_like 77 = .ok (.iadd, 1) := by decide +kernel
theorem dX7_like_78 : decode cX7_like 78 = .ok (.iaload, 1) := by decide +kernel
theorem dX7_like_79 : decode cX7_like 79 = .ok (.istore 4, 2) := by decide +kernel
theorem dX7_like_81 : decode cX7_like 81 = .ok (.iconst 0, 1) := by decide +kernel
theorem dX7_like_82 : decode cX7_like 82 = .ok (.istore 5, 2) := by decide +kernel
theorem dX7_like_84 : decode cX7_like 84 = .ok (.iload 5, 2) := by decide +kernel
theorem dX7_like_86 : decode cX7_like 86 = .ok (.bipush 6, 2) := by decide +kernel
theorem dX7_like_88 : decode cX7_like 88 = .ok (.if_icmp .ge 38, 3) := by decide +kernel
theorem dX7_like_91 : decode cX7_like 91 = .ok (.iload 4, 2) := by decide +kernel
theorem dX7_like_93 : decode cX7_like 93 = .ok (.ldc 191, 2) := by decide +kernel
theorem dX7_like_95 : decode cX7_like 95 = .ok (.if_icmp .eq 31, 3) := by decide +kernel
theorem dX7_like_98 : decode cX7_like 98 = .ok (.aload_n 0, 1) := by decide +kernel
theorem dX7_like_99 : decode cX7_like 99 = .ok (.getfield 19, 3) := by decide +kernel
theorem dX7_like_102 : decode cX7_like 102 = .ok (.iload 5, 2) := by decide +kernel
theorem dX7_like_104 : decode cX7_like 104 = .ok (.dup2, 1) := by decide +kernel
theorem dX7_like_105 : decode cX7_like 105 = .ok (.iaload, 1) := by decide +kernel
theorem dX7_like_106 : decode cX7_like 106 = .ok (.iload 4, 2) := by decide +kernel
theorem dX7_like_108 : decode cX7_like 108 = .ok (.aload_n 0, 1) := by decide +kernel
theorem dX7_like_109 : decode cX7_like 109 = .ok (.iload 5, 2) := by decide +kernel
theorem dX7_like_111 : decode cX7_like 111 = .ok (.invokevirtual 93, 3) := by decide +kernel
theorem dX7_like_114 : decode cX7_like 114 = .ok (.isub, 1) := by decide +kernel
theorem dX7_like_115 : decode cX7_like 115 = .ok (.invokestatic 112, 3) := by decide +kernel
theorem dX7_like_118 : decode cX7_like 118 = .ok (.iadd, 1) := by decide +kernel
theorem dX7_like_119 : decode cX7_like 119 = .ok (.iastore, 1) := by decide +kernel
theorem dX7_like_120 : decode cX7_like 120 = .ok (.iinc 5 1, 3) := by decide +kernel
theorem dX7_like_123 : decode cX7_like 123 = .ok (.goto (-39), 3) := by decide +kernel
theorem dX7_like_126 : decode cX7_like 126 = .ok (.aload_n 0, 1) := by decide +kernel
theorem dX7_like_127 : decode cX7_like 127 = .ok (.invokevirtual 169, 3) := by decide +kernel
theorem dX7_like_130 : decode cX7_like 130 = .ok (.iinc 3 1, 3) := by decide +kernel
theorem dX7_like_133 : decode cX7_like 133 = .ok (.goto (-75), 3) := by decide +kernel
theorem dX7_like_136 : decode cX7_like 136 = .ok (.aload_n 0, 1) := by decide +kernel
theorem dX7_like_137 : decode cX7_like 137 = .ok (.invokevirtual 188, 3) := by decide +kernel
theorem dX7_like_140 : decode cX7_like 140 = .ok (.iconst 0, 1) := by decide +kernel
theorem dX7_like_141 : decode cX7_like 141 = .ok (.istore_n 3, 1) := by decide +kernel
theorem dX7_like_142 : decode cX7_like 142 = .ok (.iconst 1, 1) := by decide +kernel
theorem dX7_like_143 : decode cX7_like 143 = .ok (.istore 4, 2) := by decide +kernel
theorem dX7_like_145 : decode cX7_like 145 = .ok (.iload 4, 2) := by decide +kernel
theorem dX7_like_147 : decode cX7_like 147 = .ok (.bipush 6, 2) := by decide +kernel
theorem dX7_like_149 : decode cX7_like 149 = .ok (.if_icmp .ge 32, 3) := by decide +kernel
theorem dX7_like_152 : decode cX7_like 152 = .ok (.aload_n 0, 1) := by decide +kernel
theorem dX7_like_153 : decode cX7_like 153 = .ok (.getfield 19, 3) := by decide +kernel
theorem dX7_like_156 : decode cX7_like 156 = .ok (.iload 4, 2) := by decide +kernel
theorem dX7_like_158 : decode cX7_like 158 = .ok (.iaload, 1) := by decide +kernel
theorem dX7_like_159 : decode cX7_like 159 = .ok (.aload_n 0, 1) := by decide +kernel
theorem dX7_like_160 : decode cX7_like 160 = .ok (.getfield 19, 3) := by decide +kernel
theorem dX7_like_163 : decode cX7_like 163 = .ok (.iload_n 3, 1) := by decide +kernel
theorem dX7_like_164 : decode cX7_like 164 = .ok (.iaload, 1) := by decide +kernel
theorem dX7_like_165 : decode cX7_like 165 = .ok (.if_icmp .ge 8, 3) := by decide +kernel
theorem dX7_like_168 : decode cX7_like 168 = .ok (.iload 4, 2) := by decide +kernel
theorem dX7_like_170 : decode cX7_like 170 = .ok (.goto 4, 3) := by decide +kernel
theorem dX7_like_173 : decode cX7_like 173 = .ok (.iload_n 3, 1) := by decide +kernel
theorem dX7_like_174 : decode cX7_like 174 = .ok (.istore_n 3, 1) := by decide +kernel
theorem dX7_like_175 : decode cX7_like 175 = .ok (.iinc 4 1, 3) := by decide +kernel
theorem dX7_like_178 : decode cX7_like 178 = .ok (.goto (-33), 3) := by decide +kernel
theorem dX7_like_181 : decode cX7_like 181 = .ok (.iload_n 2, 1) := by decide +kernel
theorem dX7_like_182 : decode cX7_like 182 = .ok (.ifCond .ne 7, 3) := by decide +kernel
theorem dX7_like_185 : decode cX7_like 185 = .ok (.iload_n 3, 1) := by decide +kernel
theorem dX7_like_186 : decode cX7_like 186 = .ok (.goto 9, 3) := by decide +kernel
theorem dX7_like_189 : decode cX7_like 189 = .ok (.aload_n 0, 1) := by decide +kernel
theorem dX7_like_190 : decode cX7_like 190 = .ok (.getfield 19, 3) := by decide +kernel
theorem dX7_like_193 : decode cX7_like 193 = .ok (.iload_n 3, 1) := by decide +kernel
theorem dX7_like_194 : decode cX7_like 194 = .ok (.iaload, 1) := by decide +kernel
theorem dX7_like_195 : decode cX7_like 195 = .ok (.ireturn, 1) := by decide +kernel
theorem dX7_fee_0 : decode cX7_fee 0 = .ok (.aload_n 0, 1) := by decide +kernel
theorem dX7_fee_1 : decode cX7_fee 1 = .ok (.iconst 1, 1) := by decide +kernel
theorem dX7_fee_2 : decode cX7_fee 2 = .ok (.invokevirtual 102, 3) := by decide +kernel
theorem dX7_fee_5 : decode cX7_fee 5 = .ok (.istore_n 1, 1) := by decide +kernel
theorem dX7_fee_6 : decode cX7_fee 6 = .ok (.aload_n 0, 1) := by decide +kernel
theorem dX7_fee_7 : decode cX7_fee 7 = .ok (.getfield 45, 3) := by decide +kernel
theorem dX7_fee_10 : decode cX7_fee 10 = .ok (.iconst 0, 1) := by decide +kernel
theorem dX7_fee_11 : decode cX7_fee 11 = .ok (.aload_n 0, 1) := by decide +kernel
theorem dX7_fee_12 : decode cX7_fee 12 = .ok (.getfield 9, 3) := by decide +kernel
theorem dX7_fee_15 : decode cX7_fee 15 = .ok (.iconst 3, 1) := by decide +kernel
theorem dX7_fee_16 : decode cX7_fee 16 = .ok (.iaload, 1) := by decide +kernel
theorem dX7_fee_17 : decode cX7_fee 17 = .ok (.iastore, 1) := by decide +kernel
theorem dX7_fee_18 : decode cX7_fee 18 = .ok (.aload_n 0, 1) := by decide +kernel
theorem dX7_fee_19 : decode cX7_fee 19 = .ok (.getfield 45, 3) := by decide +kernel
theorem dX7_fee_22 : decode cX7_fee 22 = .ok (.iconst 1, 1) := by decide +kernel
theorem dX7_fee_23 : decode cX7_fee 23 = .ok (.aload_n 0, 1) := by decide +kernel
theorem dX7_fee_24 : decode cX7_fee 24 = .ok (.getfield 9, 3) := by decide +kernel
theorem dX7_fee_27 : decode cX7_fee 27 = .ok (.iconst 4, 1) := by decide +kernel
theorem dX7_fee_28 : decode cX7_fee 28 = .ok (.iaload, 1) := by decide +kernel
theorem dX7_fee_29 : decode cX7_fee 29 = .ok (.iastore, 1) := by decide +kernel
theorem dX7_fee_30 : decode cX7_fee 30 = .ok (.iload_n 1, 1) := by decide +kernel
theorem dX7_fee_31 : decode cX7_fee 31 = .ok (.ifCond .ge 12, 3) := by decide +kernel
theorem dX7_fee_34 : decode cX7_fee 34 = .ok (.aload_n 0, 1) := by decide +kernel
theorem dX7_fee_35 : decode cX7_fee 35 = .ok (.getfield 9, 3) := by decide +kernel
theorem dX7_fee_38 : decode cX7_fee 38 = .ok (.iconst 3, 1) := by decide +kernel
theorem dX7_fee_39 : decode cX7_fee 39 = .ok (.iaload, 1) := by decide +kernel
theorem dX7_fee_40 : decode cX7_fee 40 = .ok (.goto 8, 3) := by decide +kernel
theorem dX7_fee_43 : decode cX7_fee 43 = .ok (.aload_n 0, 1) := by decide +kernel
theorem dX7_fee_44 : decode cX7_fee 44 = .ok (.iload_n 1, 1) := by decide +kernel
theorem dX7_fee_45 : decode cX7_fee 45 = .ok (.invokevirtual 105, 3) := by decide +kernel
theorem dX7_fee_48 : decode cX7_fee 48 = .ok (.ireturn, 1) := by decide +kernel
theorem dX7_fine_0 : decode cX7_fine 0 = .ok (.aload_n 0, 1) := by decide +kernel
theorem dX7_fine_1 : decode cX7_fine 1 = .ok (.iload_n 1, 1) := by decide +kernel
theorem dX7_fine_2 : decode cX7_fine 2 = .ok (.invokevirtual 128, 3) := by decide +kernel
theorem dX7_fine_5 : decode cX7_fine 5 = .ok (.ifCond .ne 6, 3) := by decide +kernel
theorem dX7_fine_8 : decode cX7_fine 8 = .ok (.ldc 119, 2) := by decide +kernel
theorem dX7_fine_10 : decode cX7_fine 10 = .ok (.ireturn, 1) := by decide +kernel
theorem dX7_fine_11 : decode cX7_fine 11 = .ok (.aload_n 0, 1) := by decide +kernel
theorem dX7_fine_12 : decode cX7_fine 12 = .ok (.iconst 2, 1) := by decide +kernel
theorem dX7_fine_13 : decode cX7_fine 13 = .ok (.invokevirtual 102, 3) := by decide +kernel
theorem dX7_fine_16 : decode cX7_fine 16 = .ok (.istore_n 2, 1) := by decide +kernel
theorem dX7_fine_17 : decode cX7_fine 17 = .ok (.aload_n 0, 1) := by decide +kernel
theorem dX7_fine_18 : decode cX7_fine 18 = .ok (.getfield 45, 3) := by decide +kernel
theorem dX7_fine_21 : decode cX7_fine 21 = .ok (.iconst 0, 1) := by decide +kernel
theorem dX7_fine_22 : decode cX7_fine 22 = .ok (.aload_n 0, 1) := by decide +kernel
theorem dX7_fine_23 : decode cX7_fine 23 = .ok (.iload_n 1, 1) := by decide +kernel
theorem dX7_fine_24 : decode cX7_fine 24 = .ok (.iconst 2, 1) := by decide +kernel
theorem dX7_fine_25 : decode cX7_fine 25 = .ok (.invokevirtual 79, 3) := by decide +kernel
theorem dX7_fine_28 : decode cX7_fine 28 = .ok (.iastore, 1) := by decide +kernel
theorem dX7_fine_29 : decode cX7_fine 29 = .ok (.aload_n 0, 1) := by decide +kernel
theorem dX7_fine_30 : decode cX7_fine 30 = .ok (.getfield 45, 3) := by decide +kernel
theorem dX7_fine_33 : decode cX7_fine 33 = .ok (.iconst 1, 1) := by decide +kernel
theorem dX7_fine_34 : decode cX7_fine 34 = .ok (.aload_n 0, 1) := by decide +kernel
theorem dX7_fine_35 : decode cX7_fine 35 = .ok (.iload_n 1, 1) := by decide +kernel
theorem dX7_fine_36 : decode cX7_fine 36 = .ok (.iconst 3, 1) := by decide +kernel
theorem dX7_fine_37 : decode cX7_fine 37 = .ok (.invokevirtual 79, 3) := by decide +kernel
theorem dX7_fine_40 : decode cX7_fine 40 = .ok (.iastore, 1) := by decide +kernel
theorem dX7_fine_41 : decode cX7_fine 41 = .ok (.iload_n 2, 1) := by decide +kernel
theorem dX7_fine_42 : decode cX7_fine 42 = .ok (.ifCond .ge 12, 3) := by decide +kernel
theorem dX7_fine_45 : decode cX7_fine 45 = .ok (.aload_n 0, 1) := by decide +kernel
theorem dX7_fine_46 : decode cX7_fine 46 = .ok (.iload_n 1, 1) := by decide +kernel
theorem dX7_fine_47 : decode cX7_fine 47 = .ok (.iconst 3, 1) := by decide +kernel
theorem dX7_fine_48 : decode cX7_fine 48 = .ok (.invokevirtual 79, 3) := by decide +kernel
theorem dX7_fine_51 : decode cX7_fine 51 = .ok (.goto 8, 3) := by decide +kernel
theorem dX7_fine_54 : decode cX7_fine 54 = .ok (.aload_n 0, 1) := by decide +kernel
theorem dX7_fine_55 : decode cX7_fine 55 = .ok (.iload_n 2, 1) := by decide +kernel
theorem dX7_fine_56 : decode cX7_fine 56 = .ok (.invokevirtual 105, 3) := by decide +kernel
theorem dX7_fine_59 : decode cX7_fine 59 = .ok (.ireturn, 1) := by decide +kernel
theorem dX7_feed_0 : decode cX7_feed 0 = .ok (.aload_n 0, 1) := by decide +kernel
theorem dX7_feed_1 : decode cX7_feed 1 = .ok (.getfield 203, 3) := by decide +kernel
theorem dX7_feed_4 : decode cX7_feed 4 = .ok (.bipush 12, 2) := by decide +kernel
theorem dX7_feed_6 : decode cX7_feed 6 = .ok (.iadd, 1) := by decide +kernel
theorem dX7_feed_7 : decode cX7_feed 7 = .ok (.bipush 96, 2) := by decide +kernel
theorem dX7_feed_9 : decode cX7_feed 9 = .ok (.if_icmp .le 6, 3) := by decide +kernel
theorem dX7_feed_12 : decode cX7_feed 12 = .ok (.ldc 120, 2) := by decide +kernel
theorem dX7_feed_14 : decode cX7_feed 14 = .ok (.ireturn, 1) := by decide +kernel
theorem dX7_feed_15 : decode cX7_feed 15 = .ok (.iconst 0, 1) := by decide +kernel
theorem dX7_feed_16 : decode cX7_feed 16 = .ok (.istore 4, 2) := by decide +kernel
theorem dX7_feed_18 : decode cX7_feed 18 = .ok (.iload 4, 2) := by decide +kernel
theorem dX7_feed_20 : decode cX7_feed 20 = .ok (.bipush 12, 2) := by decide +kernel
theorem dX7_feed_22 : decode cX7_feed 22 = .ok (.if_icmp .ge 62, 3) := by decide +kernel
theorem dX7_feed_25 : decode cX7_feed 25 = .ok (.iload 4, 2) := by decide +kernel
theorem dX7_feed_27 : decode cX7_feed 27 = .ok (.iconst 4, 1) := by decide +kernel
theorem dX7_feed_28 : decode cX7_feed 28 = .ok (.if_icmp .ge 7, 3) := by decide +kernel
theorem dX7_feed_31 : decode cX7_feed 31 = .ok (.iload_n 1, 1) := by decide +kernel
theorem dX7_feed_32 : decode cX7_feed 32 = .ok (.goto 15, 3) := by decide +kernel
theorem dX7_feed_35 : decode cX7_feed 35 = .ok (.iload 4, 2) := by decide +kernel
theorem dX7_feed_37 : decode cX7_feed 37 = .ok (.bipush 8, 2) := by decide +kernel
theorem dX7_feed_39 : decode cX7_feed 39 = .ok (.if_icmp .ge 7, 3) := by decide +kernel
theorem dX7_feed_42 : decode cX7_feed 42 = .ok (.iload_n 2, 1) := by decide +kernel
theorem dX7_feed_43 : decode cX7_feed 43 = .ok (.goto 4, 3) := by decide +kernel
theorem dX7_feed_46 : decode cX7_feed 46 = .ok (.iload_n 3, 1) := by decide +kernel
theorem dX7_feed_47 : decode cX7_feed 47 = .ok (.istore 5, 2) := by decide +kernel
theorem dX7_feed_49 : decode cX7_feed 49 = .ok (.aload_n 0, 1) := by decide +kernel
theorem dX7_feed_50 : decode cX7_feed 50 = .ok (.getfield 22, 3) := by decide +kernel
theorem dX7_feed_53 : decode cX7_feed 53 = .ok (.aload_n 0, 1) := by decide +kernel
theorem dX7_feed_54 : decode cX7_feed 54 = .ok (.getfield 203, 3) := by decide +kernel
theorem dX7_feed_57 : decode cX7_feed 57 = .ok (.iload 4, 2) := by decide +kernel
theorem dX7_feed_59 : decode cX7_feed 59 = .ok (.iadd, 1) := by decide +kernel
theorem dX7_feed_60 : decode cX7_feed 60 = .ok (.iload 5, 2) := by decide +kernel
theorem dX7_feed_62 : decode cX7_feed 62 = .ok (.bipush 24, 2) := by decide +kernel
theorem dX7_feed_64 : decode cX7_feed 64 = .ok (.bipush 8, 2) := by decide +kernel
theorem dX7_feed_66 : decode cX7_feed 66 = .ok (.iload 4, 2) := by decide +kernel
theorem dX7_feed_68 : decode cX7_feed 68 = .ok (.iconst 4, 1) := by decide +kernel
theorem dX7_feed_69 : decode cX7_feed 69 = .ok (.irem, 1) := by decide +kernel
theorem dX7_feed_70 : decode cX7_feed 70 = .ok (.imul, 1) := by decide +kernel
theorem dX7_feed_71 : decode cX7_feed 71 = .ok (.isub, 1) := by decide +kernel
theorem dX7_feed_72 : decode cX7_feed 72 = .ok (.ishr, 1) := by decide +kernel
theorem dX7_feed_73 : decode cX7_feed 73 = .ok (.sipush 255, 3) := by decide +kernel
theorem dX7_feed_76 : decode cX7_feed 76 = .ok (.iand, 1) := by decide +kernel
theorem dX7_feed_77 : decode cX7_feed 77 = .ok (.iastore, 1) := by decide +kernel
theorem dX7_feed_78 : decode cX7_feed 78 = .ok (.iinc 4 1, 3) := by decide +kernel
theorem dX7_feed_81 : decode cX7_feed 81 = .ok (.goto (-63), 3) := by decide +kernel
theorem dX7_feed_84 : decode cX7_feed 84 = .ok (.aload_n 0, 1) := by decide +kernel
theorem dX7_feed_85 : decode cX7_feed 85 = .ok (.dup, 1) := by decide +kernel
theorem dX7_feed_86 : decode cX7_feed 86 = .ok (.getfield 203, 3) := by decide +kernel
theorem dX7_feed_89 : decode cX7_feed 89 = .ok (.bipush 12, 2) := by decide +kernel
theorem dX7_feed_91 : decode cX7_feed 91 = .ok (.iadd, 1) := by decide +kernel
theorem dX7_feed_92 : decode cX7_feed 92 = .ok (.putfield 203, 3) := by decide +kernel
theorem dX7_feed_95 : decode cX7_feed 95 = .ok (.aload_n 0, 1) := by decide +kernel
theorem dX7_feed_96 : decode cX7_feed 96 = .ok (.getfield 203, 3) := by decide +kernel
theorem dX7_feed_99 : decode cX7_feed 99 = .ok (.ireturn, 1) := by decide +kernel
theorem dX7_trim_0 : decode cX7_trim 0 = .ok (.iload_n 1, 1) := by decide +kernel
theorem dX7_trim_1 : decode cX7_trim 1 = .ok (.iconst 0, 1) := by decide +kernel
theorem dX7_trim_2 : decode cX7_trim 2 = .ok (.aload_n 0, 1) := by decide +kernel
theorem dX7_trim_3 : decode cX7_trim 3 = .ok (.getfield 203, 3) := by decide +kernel
theorem dX7_trim_6 : decode cX7_trim 6 = .ok (.invokestatic 75, 3) := by decide +kernel
theorem dX7_trim_9 : decode cX7_trim 9 = .ok (.ifCond .ne 6, 3) := by decide +kernel
theorem dX7_trim_12 : decode cX7_trim 12 = .ok (.ldc 119, 2) := by decide +kernel
theorem dX7_trim_14 : decode cX7_trim 14 = .ok (.ireturn, 1) := by decide +kernel
theorem dX7_trim_15 : decode cX7_trim 15 = .ok (.aload_n 0, 1) := by decide +kernel
theorem dX7_trim_16 : decode cX7_trim 16 = .ok (.iload_n 1, 1) := by decide +kernel
theorem dX7_trim_17 : decode cX7_trim 17 = .ok (.putfield 203, 3) := by decide +kernel
theorem dX7_trim_20 : decode cX7_trim 20 = .ok (.iload_n 1, 1) := by decide +kernel
theorem dX7_trim_21 : decode cX7_trim 21 = .ok (.ireturn, 1) := by decide +kernel
theorem dX7_isLetter_0 : decode cX7_isLetter 0 = .ok (.iload_n 1, 1) := by decide +kernel
theorem dX7_isLetter_1 : decode cX7_isLetter 1 = .ok (.aload_n 0, 1) := by decide +kernel
theorem dX7_isLetter_2 : decode cX7_isLetter 2 = .ok (.getfield 203, 3) := by decide +kernel
theorem dX7_isLetter_5 : decode cX7_isLetter 5 = .ok (.if_icmp .ge 29, 3) := by decide +kernel
theorem dX7_isLetter_8 : decode cX7_isLetter 8 = .ok (.aload_n 0, 1) := by decide +kernel
theorem dX7_isLetter_9 : decode cX7_isLetter 9 = .ok (.getfield 22, 3) := by decide +kernel
theorem dX7_isLetter_12 : decode cX7_isLetter 12 = .ok (.iload_n 1, 1) := by decide +kernel
theorem dX7_isLetter_13 : decode cX7_isLetter 13 = .ok (.iaload, 1) := by decide +kernel
theorem dX7_isLetter_14 : decode cX7_isLetter 14 = .ok (.bipush 97, 2) := by decide +kernel
theorem dX7_isLetter_16 : decode cX7_isLetter 16 = .ok (.if_icmp .lt 18, 3) := by decide +kernel
theorem dX7_isLetter_19 : decode cX7_isLetter 19 = .ok (.aload_n 0, 1) := by decide +kernel
theorem dX7_isLetter_20 : decode cX7_isLetter 20 = .ok (.getfield 22, 3) := by decide +kernel
theorem dX7_isLetter_23 : decode cX7_isLetter 23 = .ok (.iload_n 1, 1) := by decide +kernel
theorem dX7_isLetter_24 : decode cX7_isLetter 24 = .ok (.iaload, 1) := by decide +kernel
theorem dX7_isLetter_25 : decode cX7_isLetter 25 = .ok (.bipush 122, 2) := by decide +kernel
theorem dX7_isLetter_27 : decode cX7_isLetter 27 = .ok (.if_icmp .gt 7, 3) := by decide +kernel
theorem dX7_isLetter_30 : decode cX7_isLetter 30 = .ok (.iconst 1, 1) := by decide +kernel
theorem dX7_isLetter_31 : decode cX7_isLetter 31 = .ok (.goto 4, 3) := by decide +kernel
theorem dX7_isLetter_34 : decode cX7_isLetter 34 = .ok (.iconst 0, 1) := by decide +kernel
theorem dX7_isLetter_35 : decode cX7_isLetter 35 = .ok (.ireturn, 1) := by decide +kernel
theorem dX7_isFigure_0 : decode cX7_isFigure 0 = .ok (.iload_n 1, 1) := by decide +kernel
theorem dX7_isFigure_1 : decode cX7_isFigure 1 = .ok (.aload_n 0, 1) := by decide +kernel
theorem dX7_isFigure_2 : decode cX7_isFigure 2 = .ok (.getfield 203, 3) := by decide +kernel
theorem dX7_isFigure_5 : decode cX7_isFigure 5 = .ok (.if_icmp .ge 29, 3) := by decide +kernel
theorem dX7_isFigure_8 : decode cX7_isFigure 8 = .ok (.aload_n 0, 1) := by decide +kernel
theorem dX7_isFigure_9 : decode cX7_isFigure 9 = .ok (.getfield 22, 3) := by decide +kernel
theorem dX7_isFigure_12 : decode cX7_isFigure 12 = .ok (.iload_n 1, 1) := by decide +kernel
theorem dX7_isFigure_13 : decode cX7_isFigure 13 = .ok (.iaload, 1) := by decide +kernel
theorem dX7_isFigure_14 : decode cX7_isFigure 14 = .ok (.bipush 48, 2) := by decide +kernel
theorem dX7_isFigure_16 : decode cX7_isFigure 16 = .ok (.if_icmp .lt 18, 3) := by decide +kernel
theorem dX7_isFigure_19 : decode cX7_isFigure 19 = .ok (.aload_n 0, 1) := by decide +kernel
theorem dX7_isFigure_20 : decode cX7_isFigure 20 = .ok (.getfield 22, 3) := by decide +kernel
theorem dX7_isFigure_23 : decode cX7_isFigure 23 = .ok (.iload_n 1, 1) := by decide +kernel
theorem dX7_isFigure_24 : decode cX7_isFigure 24 = .ok (.iaload, 1) := by decide +kernel
theorem dX7_isFigure_25 : decode cX7_isFigure 25 = .ok (.bipush 57, 2) := by decide +kernel
theorem dX7_isFigure_27 : decode cX7_isFigure 27 = .ok (.if_icmp .gt 7, 3) := by decide +kernel
theorem dX7_isFigure_30 : decode cX7_isFigure 30 = .ok (.iconst 1, 1) := by decide +kernel
theorem dX7_isFigure_31 : decode cX7_isFigure 31 = .ok (.goto 4, 3) := by decide +kernel
theorem dX7_isFigure_34 : decode cX7_isFigure 34 = .ok (.iconst 0, 1) := by decide +kernel
theorem dX7_isFigure_35 : decode cX7_isFigure 35 = .ok (.ireturn, 1) := by decide +kernel
theorem dX7_go_0 : decode cX7_go 0 = .ok (.aload_n 0, 1) := by decide +kernel
theorem dX7_go_1 : decode cX7_go 1 = .ok (.getfield 207, 3) := by decide +kernel
theorem dX7_go_4 : decode cX7_go 4 = .ok (.aload_n 0, 1) := by decide +kernel
theorem dX7_go_5 : decode cX7_go 5 = .ok (.getfield 203, 3) := by decide +kernel
theorem dX7_go_8 : decode cX7_go 8 = .ok (.if_icmp .ge 30, 3) := by decide +kernel
theorem dX7_go_11 : decode cX7_go 11 = .ok (.aload_n 0, 1) := by decide +kernel
theorem dX7_go_12 : decode cX7_go 12 = .ok (.getfield 22, 3) := by decide +kernel
theorem dX7_go_15 : decode cX7_go 15 = .ok (.aload_n 0, 1) := by decide +kernel
theorem dX7_go_16 : decode cX7_go 16 = .ok (.getfield 207, 3) := by decide +kernel
theorem dX7_go_19 : decode cX7_go 19 = .ok (.iaload, 1) := by decide +kernel
theorem dX7_go_20 : decode cX7_go 20 = .ok (.bipush 32, 2) := by decide +kernel
theorem dX7_go_22 : decode cX7_go 22 = .ok (.if_icmp .ne 16, 3) := by decide +kernel
theorem dX7_go_25 : decode cX7_go 25 = .ok (.aload_n 0, 1) := by decide +kernel
theorem dX7_go_26 : decode cX7_go 26 = .ok (.dup, 1) := by decide +kernel
theorem dX7_go_27 : decode cX7_go 27 = .ok (.getfield 207, 3) := by decide +kernel
theorem dX7_go_30 : decode cX7_go 30 = .ok (.iconst 1, 1) := by decide +kernel
theorem dX7_go_31 : decode cX7_go 31 = .ok (.iadd, 1) := by decide +kernel
theorem dX7_go_32 : decode cX7_go 32 = .ok (.putfield 207, 3) := by decide +kernel
theorem dX7_go_35 : decode cX7_go 35 = .ok (.goto (-35), 3) := by decide +kernel
theorem dX7_go_38 : decode cX7_go 38 = .ok (.aload_n 0, 1) := by decide +kernel
theorem dX7_go_39 : decode cX7_go 39 = .ok (.aload_n 0, 1) := by decide +kernel
theorem dX7_go_40 : decode cX7_go 40 = .ok (.getfield 207, 3) := by decide +kernel
theorem dX7_go_43 : decode cX7_go 43 = .ok (.putfield 210, 3) := by decide +kernel
theorem dX7_go_46 : decode cX7_go 46 = .ok (.aload_n 0, 1) := by decide +kernel
theorem dX7_go_47 : decode cX7_go 47 = .ok (.getfield 210, 3) := by decide +kernel
theorem dX7_go_50 : decode cX7_go 50 = .ok (.aload_n 0, 1) := by decide +kernel
theorem dX7_go_51 : decode cX7_go 51 = .ok (.getfield 213, 3) := by decide +kernel
theorem dX7_go_54 : decode cX7_go 54 = .ok (.if_icmp .ne 7, 3) := by decide +kernel
theorem dX7_go_57 : decode cX7_go 57 = .ok (.iconst 1, 1) := by decide +kernel
theorem dX7_go_58 : decode cX7_go 58 = .ok (.goto 4, 3) := by decide +kernel
theorem dX7_go_61 : decode cX7_go 61 = .ok (.iconst 0, 1) := by decide +kernel
theorem dX7_go_62 : decode cX7_go 62 = .ok (.istore_n 1, 1) := by decide +kernel
theorem dX7_go_63 : decode cX7_go 63 = .ok (.aload_n 0, 1) := by decide +kernel
theorem dX7_go_64 : decode cX7_go 64 = .ok (.getfield 210, 3) := by decide +kernel
theorem dX7_go_67 : decode cX7_go 67 = .ok (.aload_n 0, 1) := by decide +kernel
theorem dX7_go_68 : decode cX7_go 68 = .ok (.getfield 203, 3) := by decide +kernel
theorem dX7_go_71 : decode cX7_go 71 = .ok (.if_icmp .ne 11, 3) := by decide +kernel
theorem dX7_go_74 : decode cX7_go 74 = .ok (.aload_n 0, 1) := by decide +kernel
theorem dX7_go_75 : decode cX7_go 75 = .ok (.iconst 0, 1) := by decide +kernel
theorem dX7_go_76 : decode cX7_go 76 = .ok (.putfield 216, 3) := by decide +kernel
theorem dX7_go_79 : decode cX7_go 79 = .ok (.goto 224, 3) := by decide +kernel
theorem dX7_go_82 : decode cX7_go 82 = .ok (.aload_n 0, 1) := by decide +kernel
theorem dX7_go_83 : decode cX7_go 83 = .ok (.aload_n 0, 1) := by decide +kernel
theorem dX7_go_84 : decode cX7_go 84 = .ok (.getfield 210, 3) := by decide +kernel
theorem dX7_go_87 : decode cX7_go 87 = .ok (.invokevirtual 219, 3) := by decide +kernel
theorem dX7_go_90 : decode cX7_go 90 = .ok (.ifCond .eq 64, 3) := by decide +kernel
theorem dX7_go_93 : decode cX7_go 93 = .ok (.aload_n 0, 1) := by decide +kernel
theorem dX7_go_94 : decode cX7_go 94 = .ok (.aload_n 0, 1) := by decide +kernel
theorem dX7_go_95 : decode cX7_go 95 = .ok (.getfield 207, 3) := by decide +kernel
theorem dX7_go_98 : decode cX7_go 98 = .ok (.invokevirtual 219, 3) := by decide +kernel
theorem dX7_go_101 : decode cX7_go 101 = .ok (.ifCond .eq 16, 3) := by decide +kernel
theorem dX7_go_104 : decode cX7_go 104 = .ok (.aload_n 0, 1) := by decide +kernel
theorem dX7_go_105 : decode cX7_go 105 = .ok (.dup, 1) := by decide +kernel
theorem dX7_go_106 : decode cX7_go 106 = .ok (.getfield 207, 3) := by decide +kernel
theorem dX7_go_109 : decode cX7_go 109 = .ok (.iconst 1, 1) := by decide +kernel
theorem dX7_go_110 : decode cX7_go 110 = .ok (.iadd, 1) := by decide +kernel
theorem dX7_go_111 : decode cX7_go 111 = .ok (.putfield 207, 3) := by decide +kernel
theorem dX7_go_114 : decode cX7_go 114 = .ok (.goto (-21), 3) := by decide +kernel
theorem dX7_go_117 : decode cX7_go 117 = .ok (.aload_n 0, 1) := by decide +kernel
theorem dX7_go_118 : decode cX7_go 118 = .ok (.iload_n 1, 1) := by decide +kernel
theorem dX7_go_119 : decode cX7_go 119 = .ok (.ifCond .eq 7, 3) := by decide +kernel
theorem dX7_go_122 : decode cX7_go 122 = .ok (.iconst 4, 1) := by decide +kernel
theorem dX7_go_123 : decode cX7_go 123 = .ok (.goto 4, 3) := by decide +kernel
theorem dX7_go_126 : decode cX7_go 126 = .ok (.iconst 1, 1) := by decide +kernel
theorem dX7_go_127 : decode cX7_go 127 = .ok (.putfield 216, 3) := by decide +kernel
theorem dX7_go_130 : decode cX7_go 130 = .ok (.aload_n 0, 1) := by decide +kernel
theorem dX7_go_131 : decode cX7_go 131 = .ok (.aload_n 0, 1) := by decide +kernel
theorem dX7_go_132 : decode cX7_go 132 = .ok (.getfield 22, 3) := by decide +kernel
theorem dX7_go_135 : decode cX7_go 135 = .ok (.aload_n 0, 1) := by decide +kernel
theorem dX7_go_136 : decode cX7_go 136 = .ok (.getfield 210, 3) := by decide +kernel
theorem dX7_go_139 : decode cX7_go 139 = .ok (.iaload, 1) := by decide +kernel
theorem dX7_go_140 : decode cX7_go 140 = .ok (.putfield 222, 3) := by decide +kernel
theorem dX7_go_143 : decode cX7_go 143 = .ok (.aload_n 0, 1) := by decide +kernel
theorem dX7_go_144 : decode cX7_go 144 = .ok (.aload_n 0, 1) := by decide +kernel
theorem dX7_go_145 : decode cX7_go 145 = .ok (.getfield 207, 3) := by decide +kernel
theorem dX7_go_148 : decode cX7_go 148 = .ok (.putfield 213, 3) := by decide +kernel
theorem dX7_go_151 : decode cX7_go 151 = .ok (.goto 152, 3) := by decide +kernel
theorem dX7_go_154 : decode cX7_go 154 = .ok (.aload_n 0, 1) := by decide +kernel
theorem dX7_go_155 : decode cX7_go 155 = .ok (.aload_n 0, 1) := by decide +kernel
theorem dX7_go_156 : decode cX7_go 156 = .ok (.getfield 210, 3) := by decide +kernel
theorem dX7_go_159 : decode cX7_go 159 = .ok (.invokevirtual 225, 3) := by decide +kernel
theorem dX7_go_162 : decode cX7_go 162 = .ok (.ifCond .eq 113, 3) := by decide +kernel
theorem dX7_go_165 : decode cX7_go 165 = .ok (.aload_n 0, 1) := by decide +kernel
theorem dX7_go_166 : decode cX7_go 166 = .ok (.iconst 0, 1) := by decide +kernel
theorem dX7_go_167 : decode cX7_go 167 = .ok (.putfield 222, 3) := by decide +kernel
theorem dX7_go_170 : decode cX7_go 170 = .ok (.aload_n 0, 1) := by decide +kernel
theorem dX7_go_171 : decode cX7_go 171 = .ok (.aload_n 0, 1) := by decide +kernel
theorem dX7_go_172 : decode cX7_go 172 = .ok (.getfield 207, 3) := by decide +kernel
theorem dX7_go_175 : decode cX7_go 175 = .ok (.invokevirtual 225, 3) := by decide +kernel
theorem dX7_go_178 : decode cX7_go 178 = .ok (.ifCond .eq 60, 3) := by decide +kernel
theorem dX7_go_181 : decode cX7_go 181 = .ok (.aload_n 0, 1) := by decide +kernel
theorem dX7_go_182 : decode cX7_go 182 = .ok (.aload_n 0, 1) := by decide +kernel
theorem dX7_go_183 : decode cX7_go 183 = .ok (.getfield 207, 3) := by decide +kernel
theorem dX7_go_186 : decode cX7_go 186 = .ok (.aload_n 0, 1) := by decide +kernel
theorem dX7_go_187 : decode cX7_go 187 = .ok (.getfield 210, 3) := by decide +kernel
theorem dX7_go_190 : decode cX7_go 190 = .ok (.isub, 1) := by decide +kernel
theorem dX7_go_191 : decode cX7_go 191 = .ok (.iconst 4, 1) := by decide +kernel
theorem dX7_go_192 : decode cX7_go 192 = .ok (.if_icmp .ge 26, 3) := by decide +kernel
theorem dX7_go_195 : decode cX7_go 195 = .ok (.bipush 10, 2) := by decide +kernel
theorem dX7_go_197 : decode cX7_go 197 = .ok (.aload_n 0, 1) := by decide +kernel
theorem dX7_go_198 : decode cX7_go 198 = .ok (.getfield 222, 3) := by decide +kernel
theorem dX7_go_201 : decode cX7_go 201 = .ok (.imul, 1) := by decide +kernel
theorem dX7_go_202 : decode cX7_go 202 = .ok (.aload_n 0, 1) := by decide +kernel
theorem dX7_go_203 : decode cX7_go 203 = .ok (.getfield 22, 3) := by decide +kernel
theorem dX7_go_206 : decode cX7_go 206 = .ok (.aload_n 0, 1) := by decide +kernel
theorem dX7_go_207 : decode cX7_go 207 = .ok (.getfield 207, 3) := by decide +kernel
theorem dX7_go_210 : decode cX7_go 210 = .ok (.iaload, 1) := by decide +kernel
theorem dX7_go_211 : decode cX7_go 211 = .ok (.iadd, 1) := by decide +kernel
theorem dX7_go_212 : decode cX7_go 212 = .ok (.bipush 48, 2) := by decide +kernel
theorem dX7_go_214 : decode cX7_go 214 = .ok (.isub, 1) := by decide +kernel
theorem dX7_go_215 : decode cX7_go 215 = .ok (.goto 7, 3) := by decide +kernel
theorem dX7_go_218 : decode cX7_go 218 = .ok (.aload_n 0, 1) := by decide +kernel
theorem dX7_go_219 : decode cX7_go 219 = .ok (.getfield 222, 3) := by decide +kernel
theorem dX7_go_222 : decode cX7_go 222 = .ok (.putfield 222, 3) := by decide +kernel
theorem dX7_go_225 : decode cX7_go 225 = .ok (.aload_n 0, 1) := by decide +kernel
theorem dX7_go_226 : decode cX7_go 226 = .ok (.dup, 1) := by decide +kernel
theorem dX7_go_227 : decode cX7_go 227 = .ok (.getfield 207, 3) := by decide +kernel
theorem dX7_go_230 : decode cX7_go 230 = .ok (.iconst 1, 1) := by decide +kernel
theorem dX7_go_231 : decode cX7_go 231 = .ok (.iadd, 1) := by decide +kernel
theorem dX7_go_232 : decode cX7_go 232 = .ok (.putfield 207, 3) := by decide +kernel
theorem dX7_go_235 : decode cX7_go 235 = .ok (.goto (-65), 3) := by decide +kernel
theorem dX7_go_238 : decode cX7_go 238 = .ok (.aload_n 0, 1) := by decide +kernel
theorem dX7_go_239 : decode cX7_go 239 = .ok (.iload_n 1, 1) := by decide +kernel
theorem dX7_go_240 : decode cX7_go 240 = .ok (.ifCond .ne 16, 3) := by decide +kernel
theorem dX7_go_243 : decode cX7_go 243 = .ok (.aload_n 0, 1) := by decide +kernel
theorem dX7_go_244 : decode cX7_go 244 = .ok (.getfield 207, 3) := by decide +kernel
theorem dX7_go_247 : decode cX7_go 247 = .ok (.aload_n 0, 1) := by decide +kernel
theorem dX7_go_248 : decode cX7_go 248 = .ok (.getfield 210, 3) := by decide +kernel
theorem dX7_go_251 : decode cX7_go 251 = .ok (.isub, 1) := by decide +kernel
theorem dX7_go_252 : decode cX7_go 252 = .ok (.iconst 4, 1) := by decide +kernel
theorem dX7_go_253 : decode cX7_go 253 = .ok (.if_icmp .le 7, 3) := by decide +kernel
theorem dX7_go_256 : decode cX7_go 256 = .ok (.iconst 4, 1) := by decide +kernel
theorem dX7_go_257 : decode cX7_go 257 = .ok (.goto 4, 3) := by decide +kernel
theorem dX7_go_260 : decode cX7_go 260 = .ok (.iconst 2, 1) := by decide +kernel
theorem dX7_go_261 : decode cX7_go 261 = .ok (.putfield 216, 3) := by decide +kernel
theorem dX7_go_264 : decode cX7_go 264 = .ok (.aload_n 0, 1) := by decide +kernel
theorem dX7_go_265 : decode cX7_go 265 = .ok (.aload_n 0, 1) := by decide +kernel
theorem dX7_go_266 : decode cX7_go 266 = .ok (.getfield 207, 3) := by decide +kernel
theorem dX7_go_269 : decode cX7_go 269 = .ok (.putfield 213, 3) := by decide +kernel
theorem dX7_go_272 : decode cX7_go 272 = .ok (.goto 31, 3) := by decide +kernel
theorem dX7_go_275 : decode cX7_go 275 = .ok (.aload_n 0, 1) := by decide +kernel
theorem dX7_go_276 : decode cX7_go 276 = .ok (.iconst 3, 1) := by decide +kernel
theorem dX7_go_277 : decode cX7_go 277 = .ok (.putfield 216, 3) := by decide +kernel
theorem dX7_go_280 : decode cX7_go 280 = .ok (.aload_n 0, 1) := by decide +kernel
theorem dX7_go_281 : decode cX7_go 281 = .ok (.aload_n 0, 1) := by decide +kernel
theorem dX7_go_282 : decode cX7_go 282 = .ok (.getfield 22, 3) := by decide +kernel
theorem dX7_go_285 : decode cX7_go 285 = .ok (.aload_n 0, 1) := by decide +kernel
theorem dX7_go_286 : decode cX7_go 286 = .ok (.getfield 210, 3) := by decide +kernel
theorem dX7_go_289 : decode cX7_go 289 = .ok (.iaload, 1) := by decide +kernel
theorem dX7_go_290 : decode cX7_go 290 = .ok (.putfield 222, 3) := by decide +kernel
theorem dX7_go_293 : decode cX7_go 293 = .ok (.aload_n 0, 1) := by decide +kernel
theorem dX7_go_294 : decode cX7_go 294 = .ok (.dup, 1) := by decide +kernel
theorem dX7_go_295 : decode cX7_go 295 = .ok (.getfield 207, 3) := by decide +kernel
theorem dX7_go_298 : decode cX7_go 298 = .ok (.iconst 1, 1) := by decide +kernel
theorem dX7_go_299 : decode cX7_go 299 = .ok (.iadd, 1) := by decide +kernel
theorem dX7_go_300 : decode cX7_go 300 = .ok (.putfield 207, 3) := by decide +kernel
theorem dX7_go_303 : decode cX7_go 303 = .ok (.return_, 1) := by decide +kernel
theorem dX7_takesKey_0 : decode cX7_takesKey 0 = .ok (.aload_n 0, 1) := by decide +kernel
theorem dX7_takesKey_1 : decode cX7_takesKey 1 = .ok (.getfield 216, 3) := by decide +kernel
theorem dX7_takesKey_4 : decode cX7_takesKey 4 = .ok (.iconst 1, 1) := by decide +kernel
theorem dX7_takesKey_5 : decode cX7_takesKey 5 = .ok (.if_icmp .eq 5, 3) := by decide +kernel
theorem dX7_takesKey_8 : decode cX7_takesKey 8 = .ok (.iconst 0, 1) := by decide +kernel
theorem dX7_takesKey_9 : decode cX7_takesKey 9 = .ok (.ireturn, 1) := by decide +kernel
theorem dX7_takesKey_10 : decode cX7_takesKey 10 = .ok (.iconst 0, 1) := by decide +kernel
theorem dX7_takesKey_11 : decode cX7_takesKey 11 = .ok (.istore_n 1, 1) := by decide +kernel
theorem dX7_takesKey_12 : decode cX7_takesKey 12 = .ok (.iload_n 1, 1) := by decide +kernel
theorem dX7_takesKey_13 : decode cX7_takesKey 13 = .ok (.iconst 3, 1) := by decide +kernel
theorem dX7_takesKey_14 : decode cX7_takesKey 14 = .ok (.if_icmp .ge 113, 3) := by decide +kernel
theorem dX7_takesKey_17 : decode cX7_takesKey 17 = .ok (.aload_n 0, 1) := by decide +kernel
theorem dX7_takesKey_18 : decode cX7_takesKey 18 = .ok (.getfield 29, 3) := by decide +kernel
theorem dX7_takesKey_21 : decode cX7_takesKey 21 = .ok (.iload_n 1, 1) := by decide +kernel
theorem dX7_takesKey_22 : decode cX7_takesKey 22 = .ok (.iconst 1, 1) := by decide +kernel
theorem dX7_takesKey_23 : decode cX7_takesKey 23 = .ok (.iadd, 1) := by decide +kernel
theorem dX7_takesKey_24 : decode cX7_takesKey 24 = .ok (.iaload, 1) := by decide +kernel
theorem dX7_takesKey_25 : decode cX7_takesKey 25 = .ok (.aload_n 0, 1) := by decide +kernel
theorem dX7_takesKey_26 : decode cX7_takesKey 26 = .ok (.getfield 29, 3) := by decide +kernel
theorem dX7_takesKey_29 : decode cX7_takesKey 29 = .ok (.iload_n 1, 1) := by decide +kernel
theorem dX7_takesKey_30 : decode cX7_takesKey 30 = .ok (.iaload, 1) := by decide +kernel
theorem dX7_takesKey_31 : decode cX7_takesKey 31 = .ok (.isub, 1) := by decide +kernel
theorem dX7_takesKey_32 : decode cX7_takesKey 32 = .ok (.istore_n 2, 1) := by decide +kernel
theorem dX7_takesKey_33 : decode cX7_takesKey 33 = .ok (.iload_n 2, 1) := by decide +kernel
theorem dX7_takesKey_34 : decode cX7_takesKey 34 = .ok (.aload_n 0, 1) := by decide +kernel
theorem dX7_takesKey_35 : decode cX7_takesKey 35 = .ok (.getfield 207, 3) := by decide +kernel
theorem dX7_takesKey_38 : decode cX7_takesKey 38 = .ok (.aload_n 0, 1) := by decide +kernel
theorem dX7_takesKey_39 : decode cX7_takesKey 39 = .ok (.getfield 210, 3) := by decide +kernel
theorem dX7_takesKey_42 : decode cX7_takesKey 42 = .ok (.isub, 1) := by decide +kernel
theorem dX7_takesKey_43 : decode cX7_takesKey 43 = .ok (.if_icmp .ne 7, 3) := by decide +kernel
theorem dX7_takesKey_46 : decode cX7_takesKey 46 = .ok (.iconst 1, 1) := by decide +kernel
theorem dX7_takesKey_47 : decode cX7_takesKey 47 = .ok (.goto 4, 3) := by decide +kernel
theorem dX7_takesKey_50 : decode cX7_takesKey 50 = .ok (.iconst 0, 1) := by decide +kernel
theorem dX7_takesKey_51 : decode cX7_takesKey 51 = .ok (.istore_n 3, 1) := by decide +kernel
theorem dX7_takesKey_52 : decode cX7_takesKey 52 = .ok (.iconst 0, 1) := by decide +kernel
theorem dX7_takesKey_53 : decode cX7_takesKey 53 = .ok (.istore 4, 2) := by decide +kernel
theorem dX7_takesKey_55 : decode cX7_takesKey 55 = .ok (.iload 4, 2) := by decide +kernel
theorem dX7_takesKey_57 : decode cX7_takesKey 57 = .ok (.iload_n 2, 1) := by decide +kernel
theorem dX7_takesKey_58 : decode cX7_takesKey 58 = .ok (.if_icmp .ge 48, 3) := by decide +kernel
theorem dX7_takesKey_61 : decode cX7_takesKey 61 = .ok (.iload_n 3, 1) := by decide +kernel
theorem dX7_takesKey_62 : decode cX7_takesKey 62 = .ok (.ifCond .eq 44, 3) := by decide +kernel
theorem dX7_takesKey_65 : decode cX7_takesKey 65 = .ok (.aload_n 0, 1) := by decide +kernel
theorem dX7_takesKey_66 : decode cX7_takesKey 66 = .ok (.getfield 22, 3) := by decide +kernel
theorem dX7_takesKey_69 : decode cX7_takesKey 69 = .ok (.aload_n 0, 1) := by decide +kernel
theorem dX7_takesKey_70 : decode cX7_takesKey 70 = .ok (.getfield 210, 3) := by decide +kernel
theorem dX7_takesKey_73 : decode cX7_takesKey 73 = .ok (.iload 4, 2) := by decide +kernel
theorem dX7_takesKey_75 : decode cX7_takesKey 75 = .ok (.iadd, 1) := by decide +kernel
theorem dX7_takesKey_76 : decode cX7_takesKey 76 = .ok (.iaload, 1) := by decide +kernel
theorem dX7_takesKey_77 : decode cX7_takesKey 77 = .ok (.aload_n 0, 1) := by decide +kernel
theorem dX7_takesKey_78 : decode cX7_takesKey 78 = .ok (.getfield 25, 3) := by decide +kernel
theorem dX7_takesKey_81 : decode cX7_takesKey 81 = .ok (.aload_n 0, 1) := by decide +kernel
theorem dX7_takesKey_82 : decode cX7_takesKey 82 = .ok (.getfield 29, 3) := by decide +kernel
theorem dX7_takesKey_85 : decode cX7_takesKey 85 = .ok (.iload_n 1, 1) := by decide +kernel
theorem dX7_takesKey_86 : decode cX7_takesKey 86 = .ok (.iaload, 1) := by decide +kernel
theorem dX7_takesKey_87 : decode cX7_takesKey 87 = .ok (.iload 4, 2) := by decide +kernel
theorem dX7_takesKey_89 : decode cX7_takesKey 89 = .ok (.iadd, 1) := by decide +kernel
theorem dX7_takesKey_90 : decode cX7_takesKey 90 = .ok (.caload, 1) := by decide +kernel
theorem dX7_takesKey_91 : decode cX7_takesKey 91 = .ok (.if_icmp .ne 7, 3) := by decide +kernel
theorem dX7_takesKey_94 : decode cX7_takesKey 94 = .ok (.iconst 1, 1) := by decide +kernel
theorem dX7_takesKey_95 : decode cX7_takesKey 95 = .ok (.goto 4, 3) := by decide +kernel
theorem dX7_takesKey_98 : decode cX7_takesKey 98 = .ok (.iconst 0, 1) := by decide +kernel
theorem dX7_takesKey_99 : decode cX7_takesKey 99 = .ok (.istore_n 3, 1) := by decide +kernel
theorem dX7_takesKey_100 : decode cX7_takesKey 100 = .ok (.iinc 4 1, 3) := by decide +kernel
theorem dX7_takesKey_103 : decode cX7_takesKey 103 = .ok (.goto (-48), 3) := by decide +kernel
theorem dX7_takesKey_106 : decode cX7_takesKey 106 = .ok (.iload_n 3, 1) := by decide +kernel
theorem dX7_takesKey_107 : decode cX7_takesKey 107 = .ok (.ifCond .eq 14, 3) := by decide +kernel
theorem dX7_takesKey_110 : decode cX7_takesKey 110 = .ok (.aload_n 0, 1) := by decide +kernel
theorem dX7_takesKey_111 : decode cX7_takesKey 111 = .ok (.iload_n 1, 1) := by decide +kernel
theorem dX7_takesKey_112 : decode cX7_takesKey 112 = .ok (.putfield 228, 3) := by decide +kernel
theorem dX7_takesKey_115 : decode cX7_takesKey 115 = .ok (.aload_n 0, 1) := by decide +kernel
theorem dX7_takesKey_116 : decode cX7_takesKey 116 = .ok (.invokevirtual 231, 3) := by decide +kernel
theorem dX7_takesKey_119 : decode cX7_takesKey 119 = .ok (.iconst 1, 1) := by decide +kernel
theorem dX7_takesKey_120 : decode cX7_takesKey 120 = .ok (.ireturn, 1) := by decide +kernel
theorem dX7_takesKey_121 : decode cX7_takesKey 121 = .ok (.iinc 1 1, 3) := by decide +kernel
theorem dX7_takesKey_124 : decode cX7_takesKey 124 = .ok (.goto (-112), 3) := by decide +kernel
theorem dX7_takesKey_127 : decode cX7_takesKey 127 = .ok (.iconst 0, 1) := by decide +kernel
theorem dX7_takesKey_128 : decode cX7_takesKey 128 = .ok (.ireturn, 1) := by decide +kernel
theorem dX7_nameOf_0 : decode cX7_nameOf 0 = .ok (.aload_n 0, 1) := by decide +kernel
theorem dX7_nameOf_1 : decode cX7_nameOf 1 = .ok (.getfield 228, 3) := by decide +kernel
theorem dX7_nameOf_4 : decode cX7_nameOf 4 = .ok (.lookupswitch 92 #[(0, 28), (1, 70)], 28) := by decide +kernel
theorem dX7_nameOf_32 : decode cX7_nameOf 32 = .ok (.iload_n 1, 1) := by decide +kernel
theorem dX7_nameOf_33 : decode cX7_nameOf 33 = .ok (.bipush 116, 2) := by decide +kernel
theorem dX7_nameOf_35 : decode cX7_nameOf 35 = .ok (.if_icmp .ne 7, 3) := by decide +kernel
theorem dX7_nameOf_38 : decode cX7_nameOf 38 = .ok (.iconst 0, 1) := by decide +kernel
theorem dX7_nameOf_39 : decode cX7_nameOf 39 = .ok (.goto 34, 3) := by decide +kernel
theorem dX7_nameOf_42 : decode cX7_nameOf 42 = .ok (.iload_n 1, 1) := by decide +kernel
theorem dX7_nameOf_43 : decode cX7_nameOf 43 = .ok (.bipush 110, 2) := by decide +kernel
theorem dX7_nameOf_45 : decode cX7_nameOf 45 = .ok (.if_icmp .ne 7, 3) := by decide +kernel
theorem dX7_nameOf_48 : decode cX7_nameOf 48 = .ok (.iconst 1, 1) := by decide +kernel
theorem dX7_nameOf_49 : decode cX7_nameOf 49 = .ok (.goto 24, 3) := by decide +kernel
theorem dX7_nameOf_52 : decode cX7_nameOf 52 = .ok (.iload_n 1, 1) := by decide +kernel
theorem dX7_nameOf_53 : decode cX7_nameOf 53 = .ok (.bipush 115, 2) := by decide +kernel
theorem dX7_nameOf_55 : decode cX7_nameOf 55 = .ok (.if_icmp .ne 7, 3) := by decide +kernel
theorem dX7_nameOf_58 : decode cX7_nameOf 58 = .ok (.iconst 2, 1) := by decide +kernel
theorem dX7_nameOf_59 : decode cX7_nameOf 59 = .ok (.goto 14, 3) := by decide +kernel
theorem dX7_nameOf_62 : decode cX7_nameOf 62 = .ok (.iload_n 1, 1) := by decide +kernel
theorem dX7_nameOf_63 : decode cX7_nameOf 63 = .ok (.bipush 118, 2) := by decide +kernel
theorem dX7_nameOf_65 : decode cX7_nameOf 65 = .ok (.if_icmp .ne 7, 3) := by decide +kernel
theorem dX7_nameOf_68 : decode cX7_nameOf 68 = .ok (.iconst 3, 1) := by decide +kernel
theorem dX7_nameOf_69 : decode cX7_nameOf 69 = .ok (.goto 4, 3) := by decide +kernel
theorem dX7_nameOf_72 : decode cX7_nameOf 72 = .ok (.iconst (-1), 1) := by decide +kernel
theorem dX7_nameOf_73 : decode cX7_nameOf 73 = .ok (.ireturn, 1) := by decide +kernel
theorem dX7_nameOf_74 : decode cX7_nameOf 74 = .ok (.iload_n 1, 1) := by decide +kernel
theorem dX7_nameOf_75 : decode cX7_nameOf 75 = .ok (.bipush 119, 2) := by decide +kernel
theorem dX7_nameOf_77 : decode cX7_nameOf 77 = .ok (.if_icmp .ne 7, 3) := by decide +kernel
theorem dX7_nameOf_80 : decode cX7_nameOf 80 = .ok (.iconst 0, 1) := by decide +kernel
theorem dX7_nameOf_81 : decode cX7_nameOf 81 = .ok (.goto 14, 3) := by decide +kernel
theorem dX7_nameOf_84 : decode cX7_nameOf 84 = .ok (.iload_n 1, 1) := by decide +kernel
theorem dX7_nameOf_85 : decode cX7_nameOf 85 = .ok (.bipush 103, 2) := by decide +kernel
theorem dX7_nameOf_87 : decode cX7_nameOf 87 = .ok (.if_icmp .ne 7, 3) := by decide +kernel
theorem dX7_nameOf_90 : decode cX7_nameOf 90 = .ok (.iconst 1, 1) := by decide +kernel
theorem dX7_nameOf_91 : decode cX7_nameOf 91 = .ok (.goto 4, 3) := by decide +kernel
theorem dX7_nameOf_94 : decode cX7_nameOf 94 = .ok (.iconst (-1), 1) := by decide +kernel
theorem dX7_nameOf_95 : decode cX7_nameOf 95 = .ok (.ireturn, 1) := by decide +kernel
theorem dX7_nameOf_96 : decode cX7_nameOf 96 = .ok (.iload_n 1, 1) := by decide +kernel
theorem dX7_nameOf_97 : decode cX7_nameOf 97 = .ok (.bipush 116, 2) := by decide +kernel
theorem dX7_nameOf_99 : decode cX7_nameOf 99 = .ok (.if_icmp .ne 7, 3) := by decide +kernel
theorem dX7_nameOf_102 : decode cX7_nameOf 102 = .ok (.iconst 0, 1) := by decide +kernel
theorem dX7_nameOf_103 : decode cX7_nameOf 103 = .ok (.goto 14, 3) := by decide +kernel
theorem dX7_nameOf_106 : decode cX7_nameOf 106 = .ok (.iload_n 1, 1) := by decide +kernel
theorem dX7_nameOf_107 : decode cX7_nameOf 107 = .ok (.bipush 115, 2) := by decide +kernel
theorem dX7_nameOf_109 : decode cX7_nameOf 109 = .ok (.if_icmp .ne 7, 3) := by decide +kernel
theorem dX7_nameOf_112 : decode cX7_nameOf 112 = .ok (.iconst 1, 1) := by decide +kernel
theorem dX7_nameOf_113 : decode cX7_nameOf 113 = .ok (.goto 4, 3) := by decide +kernel
theorem dX7_nameOf_116 : decode cX7_nameOf 116 = .ok (.iconst (-1), 1) := by decide +kernel
theorem dX7_nameOf_117 : decode cX7_nameOf 117 = .ok (.ireturn, 1) := by decide +kernel
theorem dX7_rank_0 : decode cX7_rank 0 = .ok (.iload_n 0, 1) := by decide +kernel
theorem dX7_rank_1 : decode cX7_rank 1 = .ok (.iconst (-1), 1) := by decide +kernel
theorem dX7_rank_2 : decode cX7_rank 2 = .ok (.if_icmp .ne 7, 3) := by decide +kernel
theorem dX7_rank_5 : decode cX7_rank 5 = .ok (.iconst 1, 1) := by decide +kernel
theorem dX7_rank_6 : decode cX7_rank 6 = .ok (.goto 45, 3) := by decide +kernel
theorem dX7_rank_9 : decode cX7_rank 9 = .ok (.iload_n 0, 1) := by decide +kernel
theorem dX7_rank_10 : decode cX7_rank 10 = .ok (.bipush (-2), 2) := by decide +kernel
theorem dX7_rank_12 : decode cX7_rank 12 = .ok (.if_icmp .ne 7, 3) := by decide +kernel
theorem dX7_rank_15 : decode cX7_rank 15 = .ok (.iconst 2, 1) := by decide +kernel
theorem dX7_rank_16 : decode cX7_rank 16 = .ok (.goto 35, 3) := by decide +kernel
theorem dX7_rank_19 : decode cX7_rank 19 = .ok (.iload_n 0, 1) := by decide +kernel
theorem dX7_rank_20 : decode cX7_rank 20 = .ok (.bipush (-5), 2) := by decide +kernel
theorem dX7_rank_22 : decode cX7_rank 22 = .ok (.if_icmp .lt 7, 3) := by decide +kernel
theorem dX7_rank_25 : decode cX7_rank 25 = .ok (.iconst 3, 1) := by decide +kernel
theorem dX7_rank_26 : decode cX7_rank 26 = .ok (.goto 25, 3) := by decide +kernel
theorem dX7_rank_29 : decode cX7_rank 29 = .ok (.iload_n 0, 1) := by decide +kernel
theorem dX7_rank_30 : decode cX7_rank 30 = .ok (.bipush (-7), 2) := by decide +kernel
theorem dX7_rank_32 : decode cX7_rank 32 = .ok (.if_icmp .lt 7, 3) := by decide +kernel
theorem dX7_rank_35 : decode cX7_rank 35 = .ok (.iconst 4, 1) := by decide +kernel
theorem dX7_rank_36 : decode cX7_rank 36 = .ok (.goto 15, 3) := by decide +kernel
theorem dX7_rank_39 : decode cX7_rank 39 = .ok (.iload_n 0, 1) := by decide +kernel
theorem dX7_rank_40 : decode cX7_rank 40 = .ok (.bipush (-9), 2) := by decide +kernel
theorem dX7_rank_42 : decode cX7_rank 42 = .ok (.if_icmp .lt 7, 3) := by decide +kernel
theorem dX7_rank_45 : decode cX7_rank 45 = .ok (.iconst 5, 1) := by decide +kernel
theorem dX7_rank_46 : decode cX7_rank 46 = .ok (.goto 5, 3) := by decide +kernel
theorem dX7_rank_49 : decode cX7_rank 49 = .ok (.bipush 6, 2) := by decide +kernel
theorem dX7_rank_51 : decode cX7_rank 51 = .ok (.ireturn, 1) := by decide +kernel
theorem dX7_settle_0 : decode cX7_settle 0 = .ok (.aload_n 0, 1) := by decide +kernel
theorem dX7_settle_1 : decode cX7_settle 1 = .ok (.getfield 234, 3) := by decide +kernel
theorem dX7_settle_4 : decode cX7_settle 4 = .ok (.ifCond .le 78, 3) := by decide +kernel
theorem dX7_settle_7 : decode cX7_settle 7 = .ok (.aload_n 0, 1) := by decide +kernel
theorem dX7_settle_8 : decode cX7_settle 8 = .ok (.getfield 35, 3) := by decide +kernel
theorem dX7_settle_11 : decode cX7_settle 11 = .ok (.aload_n 0, 1) := by decide +kernel
theorem dX7_settle_12 : decode cX7_settle 12 = .ok (.getfield 234, 3) := by decide +kernel
theorem dX7_settle_15 : decode cX7_settle 15 = .ok (.iconst 1, 1) := by decide +kernel
theorem dX7_settle_16 : decode cX7_settle 16 = .ok (.isub, 1) := by decide +kernel
theorem dX7_settle_17 : decode cX7_settle 17 = .ok (.iaload, 1) := by decide +kernel
theorem dX7_settle_18 : decode cX7_settle 18 = .ok (.bipush (-11), 2) := by decide +kernel
theorem dX7_settle_20 : decode cX7_settle 20 = .ok (.if_icmp .eq 62, 3) := by decide +kernel
theorem dX7_settle_23 : decode cX7_settle 23 = .ok (.aload_n 0, 1) := by decide +kernel
theorem dX7_settle_24 : decode cX7_settle 24 = .ok (.getfield 35, 3) := by decide +kernel
theorem dX7_settle_27 : decode cX7_settle 27 = .ok (.aload_n 0, 1) := by decide +kernel
theorem dX7_settle_28 : decode cX7_settle 28 = .ok (.getfield 234, 3) := by decide +kernel
theorem dX7_settle_31 : decode cX7_settle 31 = .ok (.iconst 1, 1) := by decide +kernel
theorem dX7_settle_32 : decode cX7_settle 32 = .ok (.isub, 1) := by decide +kernel
theorem dX7_settle_33 : decode cX7_settle 33 = .ok (.iaload, 1) := by decide +kernel
theorem dX7_settle_34 : decode cX7_settle 34 = .ok (.invokestatic 237, 3) := by decide +kernel
theorem dX7_settle_37 : decode cX7_settle 37 = .ok (.iload_n 1, 1) := by decide +kernel
theorem dX7_settle_38 : decode cX7_settle 38 = .ok (.if_icmp .lt 44, 3) := by decide +kernel
theorem dX7_settle_41 : decode cX7_settle 41 = .ok (.aload_n 0, 1) := by decide +kernel
theorem dX7_settle_42 : decode cX7_settle 42 = .ok (.dup, 1) := by decide +kernel
theorem dX7_settle_43 : decode cX7_settle 43 = .ok (.getfield 234, 3) := by decide +kernel
theorem dX7_settle_46 : decode cX7_settle 46 = .ok (.iconst 1, 1) := by decide +kernel
theorem dX7_settle_47 : decode cX7_settle 47 = .ok (.isub, 1) := by decide +kernel
theorem dX7_settle_48 : decode cX7_settle 48 = .ok (.putfield 234, 3) := by decide +kernel
theorem dX7_settle_51 : decode cX7_settle 51 = .ok (.aload_n 0, 1) := by decide +kernel
theorem dX7_settle_52 : decode cX7_settle 52 = .ok (.getfield 32, 3) := by decide +kernel
theorem dX7_settle_55 : decode cX7_settle 55 = .ok (.aload_n 0, 1) := by decide +kernel
theorem dX7_settle_56 : decode cX7_settle 56 = .ok (.getfield 240, 3) := by decide +kernel
theorem dX7_settle_59 : decode cX7_settle 59 = .ok (.aload_n 0, 1) := by decide +kernel
theorem dX7_settle_60 : decode cX7_settle 60 = .ok (.getfield 35, 3) := by decide +kernel
theorem dX7_settle_63 : decode cX7_settle 63 = .ok (.aload_n 0, 1) := by decide +kernel
theorem dX7_settle_64 : decode cX7_settle 64 = .ok (.getfield 234, 3) := by decide +kernel
theorem dX7_settle_67 : decode cX7_settle 67 = .ok (.iaload, 1) := by decide +kernel
theorem dX7_settle_68 : decode cX7_settle 68 = .ok (.iastore, 1) := by decide +kernel
theorem dX7_settle_69 : decode cX7_settle 69 = .ok (.aload_n 0, 1) := by decide +kernel
theorem dX7_settle_70 : decode cX7_settle 70 = .ok (.dup, 1) := by decide +kernel
theorem dX7_settle_71 : decode cX7_settle 71 = .ok (.getfield 240, 3) := by decide +kernel
theorem dX7_settle_74 : decode cX7_settle 74 = .ok (.iconst 1, 1) := by decide +kernel
theorem dX7_settle_75 : decode cX7_settle 75 = .ok (.iadd, 1) := by decide +kernel
theorem dX7_settle_76 : decode cX7_settle 76 = .ok (.putfield 240, 3) := by decide +kernel
theorem dX7_settle_79 : decode cX7_settle 79 = .ok (.goto (-79), 3) := by decide +kernel
theorem dX7_settle_82 : decode cX7_settle 82 = .ok (.return_, 1) := by decide +kernel
theorem dX7_signHere_0 : decode cX7_signHere 0 = .ok (.aload_n 0, 1) := by decide +kernel
theorem dX7_signHere_1 : decode cX7_signHere 1 = .ok (.getfield 216, 3) := by decide +kernel
theorem dX7_signHere_4 : decode cX7_signHere 4 = .ok (.iconst 3, 1) := by decide +kernel
theorem dX7_signHere_5 : decode cX7_signHere 5 = .ok (.if_icmp .eq 5, 3) := by decide +kernel
theorem dX7_signHere_8 : decode cX7_signHere 8 = .ok (.iconst 0, 1) := by decide +kernel
theorem dX7_signHere_9 : decode cX7_signHere 9 = .ok (.ireturn, 1) := by decide +kernel
theorem dX7_signHere_10 : decode cX7_signHere 10 = .ok (.aload_n 0, 1) := by decide +kernel
theorem dX7_signHere_11 : decode cX7_signHere 11 = .ok (.getfield 222, 3) := by decide +kernel
theorem dX7_signHere_14 : decode cX7_signHere 14 = .ok (.lookupswitch 108 #[(38, 84), (42, 102), (43, 96), (45, 99), (47, 105), (60, 87), (61, 90), (62, 93), (124, 82)], 82) := by decide +kernel
theorem dX7_signHere_96 : decode cX7_signHere 96 = .ok (.iconst (-1), 1) := by decide +kernel
theorem dX7_signHere_97 : decode cX7_signHere 97 = .ok (.ireturn, 1) := by decide +kernel
theorem dX7_signHere_98 : decode cX7_signHere 98 = .ok (.bipush (-2), 2) := by decide +kernel
theorem dX7_signHere_100 : decode cX7_signHere 100 = .ok (.ireturn, 1) := by decide +kernel
theorem dX7_signHere_101 : decode cX7_signHere 101 = .ok (.bipush (-3), 2) := by decide +kernel
theorem dX7_signHere_103 : decode cX7_signHere 103 = .ok (.ireturn, 1) := by decide +kernel
theorem dX7_signHere_104 : decode cX7_signHere 104 = .ok (.bipush (-4), 2) := by decide +kernel
theorem dX7_signHere_106 : decode cX7_signHere 106 = .ok (.ireturn, 1) := by decide +kernel
theorem dX7_signHere_107 : decode cX7_signHere 107 = .ok (.bipush (-5), 2) := by decide +kernel
theorem dX7_signHere_109 : decode cX7_signHere 109 = .ok (.ireturn, 1) := by decide +kernel
theorem dX7_signHere_110 : decode cX7_signHere 110 = .ok (.bipush (-6), 2) := by decide +kernel
theorem dX7_signHere_112 : decode cX7_signHere 112 = .ok (.ireturn, 1) := by decide +kernel
theorem dX7_signHere_113 : decode cX7_signHere 113 = .ok (.bipush (-7), 2) := by decide +kernel
theorem dX7_signHere_115 : decode cX7_signHere 115 = .ok (.ireturn, 1) := by decide +kernel
theorem dX7_signHere_116 : decode cX7_signHere 116 = .ok (.bipush (-8), 2) := by decide +kernel
theorem dX7_signHere_118 : decode cX7_signHere 118 = .ok (.ireturn, 1) := by decide +kernel
theorem dX7_signHere_119 : decode cX7_signHere 119 = .ok (.bipush (-9), 2) := by decide +kernel
theorem dX7_signHere_121 : decode cX7_signHere 121 = .ok (.ireturn, 1) := by decide +kernel
theorem dX7_signHere_122 : decode cX7_signHere 122 = .ok (.iconst 0, 1) := by decide +kernel
theorem dX7_signHere_123 : decode cX7_signHere 123 = .ok (.ireturn, 1) := by decide +kernel
theorem dX7_takesPart_0 : decode cX7_takesPart 0 = .ok (.aload_n 0, 1) := by decide +kernel
theorem dX7_takesPart_1 : decode cX7_takesPart 1 = .ok (.getfield 216, 3) := by decide +kernel
theorem dX7_takesPart_4 : decode cX7_takesPart 4 = .ok (.iconst 1, 1) := by decide +kernel
theorem dX7_takesPart_5 : decode cX7_takesPart 5 = .ok (.if_icmp .ne 31, 3) := by decide +kernel
theorem dX7_takesPart_8 : decode cX7_takesPart 8 = .ok (.aload_n 0, 1) := by decide +kernel
theorem dX7_takesPart_9 : decode cX7_takesPart 9 = .ok (.getfield 207, 3) := by decide +kernel
theorem dX7_takesPart_12 : decode cX7_takesPart 12 = .ok (.aload_n 0, 1) := by decide +kernel
theorem dX7_takesPart_13 : decode cX7_takesPart 13 = .ok (.getfield 210, 3) := by decide +kernel
theorem dX7_takesPart_16 : decode cX7_takesPart 16 = .ok (.isub, 1) := by decide +kernel
theorem dX7_takesPart_17 : decode cX7_takesPart 17 = .ok (.iconst 1, 1) := by decide +kernel
theorem dX7_takesPart_18 : decode cX7_takesPart 18 = .ok (.if_icmp .ne 18, 3) := by decide +kernel
theorem dX7_takesPart_21 : decode cX7_takesPart 21 = .ok (.aload_n 0, 1) := by decide +kernel
theorem dX7_takesPart_22 : decode cX7_takesPart 22 = .ok (.aload_n 0, 1) := by decide +kernel
theorem dX7_takesPart_23 : decode cX7_takesPart 23 = .ok (.getfield 222, 3) := by decide +kernel
theorem dX7_takesPart_26 : decode cX7_takesPart 26 = .ok (.invokevirtual 243, 3) := by decide +kernel
theorem dX7_takesPart_29 : decode cX7_takesPart 29 = .ok (.ifCond .lt 7, 3) := by decide +kernel
theorem dX7_takesPart_32 : decode cX7_takesPart 32 = .ok (.iconst 1, 1) := by decide +kernel
theorem dX7_takesPart_33 : decode cX7_takesPart 33 = .ok (.goto 4, 3) := by decide +kernel
theorem dX7_takesPart_36 : decode cX7_takesPart 36 = .ok (.iconst 0, 1) := by decide +kernel
theorem dX7_takesPart_37 : decode cX7_takesPart 37 = .ok (.istore_n 1, 1) := by decide +kernel
theorem dX7_takesPart_38 : decode cX7_takesPart 38 = .ok (.aload_n 0, 1) := by decide +kernel
theorem dX7_takesPart_39 : decode cX7_takesPart 39 = .ok (.getfield 216, 3) := by decide +kernel
theorem dX7_takesPart_42 : decode cX7_takesPart 42 = .ok (.iconst 2, 1) := by decide +kernel
theorem dX7_takesPart_43 : decode cX7_takesPart 43 = .ok (.if_icmp .eq 9, 3) := by decide +kernel
theorem dX7_takesPart_46 : decode cX7_takesPart 46 = .ok (.iload_n 1, 1) := by decide +kernel
theorem dX7_takesPart_47 : decode cX7_takesPart 47 = .ok (.ifCond .ne 5, 3) := by decide +kernel
theorem dX7_takesPart_50 : decode cX7_takesPart 50 = .ok (.iconst 0, 1) := by decide +kernel
theorem dX7_takesPart_51 : decode cX7_takesPart 51 = .ok (.ireturn, 1) := by decide +kernel
theorem dX7_takesPart_52 : decode cX7_takesPart 52 = .ok (.aload_n 0, 1) := by decide +kernel
theorem dX7_takesPart_53 : decode cX7_takesPart 53 = .ok (.getfield 32, 3) := by decide +kernel
theorem dX7_takesPart_56 : decode cX7_takesPart 56 = .ok (.aload_n 0, 1) := by decide +kernel
theorem dX7_takesPart_57 : decode cX7_takesPart 57 = .ok (.getfield 240, 3) := by decide +kernel
theorem dX7_takesPart_60 : decode cX7_takesPart 60 = .ok (.aload_n 0, 1) := by decide +kernel
theorem dX7_takesPart_61 : decode cX7_takesPart 61 = .ok (.getfield 216, 3) := by decide +kernel
theorem dX7_takesPart_64 : decode cX7_takesPart 64 = .ok (.iconst 2, 1) := by decide +kernel
theorem dX7_takesPart_65 : decode cX7_takesPart 65 = .ok (.if_icmp .ne 10, 3) := by decide +kernel
theorem dX7_takesPart_68 : decode cX7_takesPart 68 = .ok (.aload_n 0, 1) := by decide +kernel
theorem dX7_takesPart_69 : decode cX7_takesPart 69 = .ok (.getfield 222, 3) := by decide +kernel
theorem dX7_takesPart_72 : decode cX7_takesPart 72 = .ok (.goto 15, 3) := by decide +kernel
theorem dX7_takesPart_75 : decode cX7_takesPart 75 = .ok (.sipush 10000, 3) := by decide +kernel
theorem dX7_takesPart_78 : decode cX7_takesPart 78 = .ok (.aload_n 0, 1) := by decide +kernel
theorem dX7_takesPart_79 : decode cX7_takesPart 79 = .ok (.aload_n 0, 1) := by decide +kernel
theorem dX7_takesPart_80 : decode cX7_takesPart 80 = .ok (.getfield 222, 3) := by decide +kernel
theorem dX7_takesPart_83 : decode cX7_takesPart 83 = .ok (.invokevirtual 243, 3) := by decide +kernel
theorem dX7_takesPart_86 : decode cX7_takesPart 86 = .ok (.iadd, 1) := by decide +kernel
theorem dX7_takesPart_87 : decode cX7_takesPart 87 = .ok (.iastore, 1) := by decide +kernel
theorem dX7_takesPart_88 : decode cX7_takesPart 88 = .ok (.aload_n 0, 1) := by decide +kernel
theorem dX7_takesPart_89 : decode cX7_takesPart 89 = .ok (.dup, 1) := by decide +kernel
theorem dX7_takesPart_90 : decode cX7_takesPart 90 = .ok (.getfield 240, 3) := by decide +kernel
theorem dX7_takesPart_93 : decode cX7_takesPart 93 = .ok (.iconst 1, 1) := by decide +kernel
theorem dX7_takesPart_94 : decode cX7_takesPart 94 = .ok (.iadd, 1) := by decide +kernel
theorem dX7_takesPart_95 : decode cX7_takesPart 95 = .ok (.putfield 240, 3) := by decide +kernel
theorem dX7_takesPart_98 : decode cX7_takesPart 98 = .ok (.aload_n 0, 1) := by decide +kernel
theorem dX7_takesPart_99 : decode cX7_takesPart 99 = .ok (.dup, 1) := by decide +kernel
theorem dX7_takesPart_100 : decode cX7_takesPart 100 = .ok (.getfield 246, 3) := by decide +kernel
theorem dX7_takesPart_103 : decode cX7_takesPart 103 = .ok (.iconst 1, 1) := by decide +kernel
theorem dX7_takesPart_104 : decode cX7_takesPart 104 = .ok (.iadd, 1) := by decide +kernel
theorem dX7_takesPart_105 : decode cX7_takesPart 105 = .ok (.putfield 246, 3) := by decide +kernel
theorem dX7_takesPart_108 : decode cX7_takesPart 108 = .ok (.aload_n 0, 1) := by decide +kernel
theorem dX7_takesPart_109 : decode cX7_takesPart 109 = .ok (.bipush 6, 2) := by decide +kernel
theorem dX7_takesPart_111 : decode cX7_takesPart 111 = .ok (.invokevirtual 249, 3) := by decide +kernel
theorem dX7_takesPart_114 : decode cX7_takesPart 114 = .ok (.aload_n 0, 1) := by decide +kernel
theorem dX7_takesPart_115 : decode cX7_takesPart 115 = .ok (.invokevirtual 231, 3) := by decide +kernel
theorem dX7_takesPart_118 : decode cX7_takesPart 118 = .ok (.iconst 1, 1) := by decide +kernel
theorem dX7_takesPart_119 : decode cX7_takesPart 119 = .ok (.ireturn, 1) := by decide +kernel
theorem dX7_takesE_0 : decode cX7_takesE 0 = .ok (.iconst 0, 1) := by decide +kernel
theorem dX7_takesE_1 : decode cX7_takesE 1 = .ok (.istore_n 1, 1) := by decide +kernel
theorem dX7_takesE_2 : decode cX7_takesE 2 = .ok (.iconst 0, 1) := by decide +kernel
theorem dX7_takesE_3 : decode cX7_takesE 3 = .ok (.istore_n 2, 1) := by decide +kernel
theorem dX7_takesE_4 : decode cX7_takesE 4 = .ok (.iconst 1, 1) := by decide +kernel
theorem dX7_takesE_5 : decode cX7_takesE 5 = .ok (.istore_n 3, 1) := by decide +kernel
theorem dX7_takesE_6 : decode cX7_takesE 6 = .ok (.aload_n 0, 1) := by decide +kernel
theorem dX7_takesE_7 : decode cX7_takesE 7 = .ok (.iconst 0, 1) := by decide +kernel
theorem dX7_takesE_8 : decode cX7_takesE 8 = .ok (.putfield 240, 3) := by decide +kernel
theorem dX7_takesE_11 : decode cX7_takesE 11 = .ok (.aload_n 0, 1) := by decide +kernel
theorem dX7_takesE_12 : decode cX7_takesE 12 = .ok (.iconst 0, 1) := by decide +kernel
theorem dX7_takesE_13 : decode cX7_takesE 13 = .ok (.putfield 246, 3) := by decide +kernel
theorem dX7_takesE_16 : decode cX7_takesE 16 = .ok (.aload_n 0, 1) := by decide +kernel
theorem dX7_takesE_17 : decode cX7_takesE 17 = .ok (.iconst 0, 1) := by decide +kernel
theorem dX7_takesE_18 : decode cX7_takesE 18 = .ok (.putfield 234, 3) := by decide +kernel
theorem dX7_takesE_21 : decode cX7_takesE 21 = .ok (.aload_n 0, 1) := by decide +kernel
theorem dX7_takesE_22 : decode cX7_takesE 22 = .ok (.getfield 38, 3) := by decide +kernel
theorem dX7_takesE_25 : decode cX7_takesE 25 = .ok (.iconst 0, 1) := by decide +kernel
theorem dX7_takesE_26 : decode cX7_takesE 26 = .ok (.iconst 0, 1) := by decide +kernel
theorem dX7_takesE_27 : decode cX7_takesE 27 = .ok (.bastore, 1) := by decide +kernel
theorem dX7_takesE_28 : decode cX7_takesE 28 = .ok (.iload_n 3, 1) := by decide +kernel
theorem dX7_takesE_29 : decode cX7_takesE 29 = .ok (.ifCond .ne 10, 3) := by decide +kernel
theorem dX7_takesE_32 : decode cX7_takesE 32 = .ok (.aload_n 0, 1) := by decide +kernel
theorem dX7_takesE_33 : decode cX7_takesE 33 = .ok (.getfield 216, 3) := by decide +kernel
theorem dX7_takesE_36 : decode cX7_takesE 36 = .ok (.ifCond .eq 309, 3) := by decide +kernel
theorem dX7_takesE_39 : decode cX7_takesE 39 = .ok (.iload_n 3, 1) := by decide +kernel
theorem dX7_takesE_40 : decode cX7_takesE 40 = .ok (.ifCond .eq 140, 3) := by decide +kernel
theorem dX7_takesE_43 : decode cX7_takesE 43 = .ok (.aload_n 0, 1) := by decide +kernel
theorem dX7_takesE_44 : decode cX7_takesE 44 = .ok (.getfield 216, 3) := by decide +kernel
theorem dX7_takesE_47 : decode cX7_takesE 47 = .ok (.iconst 3, 1) := by decide +kernel
theorem dX7_takesE_48 : decode cX7_takesE 48 = .ok (.if_icmp .ne 49, 3) := by decide +kernel
theorem dX7_takesE_51 : decode cX7_takesE 51 = .ok (.aload_n 0, 1) := by decide +kernel
theorem dX7_takesE_52 : decode cX7_takesE 52 = .ok (.getfield 222, 3) := by decide +kernel
theorem dX7_takesE_55 : decode cX7_takesE 55 = .ok (.bipush 33, 2) := by decide +kernel
theorem dX7_takesE_57 : decode cX7_takesE 57 = .ok (.if_icmp .ne 40, 3) := by decide +kernel
theorem dX7_takesE_60 : decode cX7_takesE 60 = .ok (.iload_n 2, 1) := by decide +kernel
theorem dX7_takesE_61 : decode cX7_takesE 61 = .ok (.bipush 8, 2) := by decide +kernel
theorem dX7_takesE_63 : decode cX7_takesE 63 = .ok (.if_icmp .ge 34, 3) := by decide +kernel
theorem dX7_takesE_66 : decode cX7_takesE 66 = .ok (.aload_n 0, 1) := by decide +kernel
theorem dX7_takesE_67 : decode cX7_takesE 67 = .ok (.getfield 35, 3) := by decide +kernel
theorem dX7_takesE_70 : decode cX7_takesE 70 = .ok (.aload_n 0, 1) := by decide +kernel
theorem dX7_takesE_71 : decode cX7_takesE 71 = .ok (.getfield 234, 3) := by decide +kernel
theorem dX7_takesE_74 : decode cX7_takesE 74 = .ok (.bipush (-10), 2) := by decide +kernel
theorem dX7_takesE_76 : decode cX7_takesE 76 = .ok (.iastore, 1) := by decide +kernel
theorem dX7_takesE_77 : decode cX7_takesE 77 = .ok (.aload_n 0, 1) := by decide +kernel
theorem dX7_takesE_78 : decode cX7_takesE 78 = .ok (.dup, 1) := by decide +kernel
theorem dX7_takesE_79 : decode cX7_takesE 79 = .ok (.getfield 234, 3) := by decide +kernel
theorem dX7_takesE_82 : decode cX7_takesE 82 = .ok (.iconst 1, 1) := by decide +kernel
theorem dX7_takesE_83 : decode cX7_takesE 83 = .ok (.iadd, 1) := by decide +kernel
theorem dX7_takesE_84 : decode cX7_takesE 84 = .ok (.putfield 234, 3) := by decide +kernel
theorem dX7_takesE_87 : decode cX7_takesE 87 = .ok (.iinc 2 1, 3) := by decide +kernel
theorem dX7_takesE_90 : decode cX7_takesE 90 = .ok (.aload_n 0, 1) := by decide +kernel
theorem dX7_takesE_91 : decode cX7_takesE 91 = .ok (.invokevirtual 231, 3) := by decide +kernel
theorem dX7_takesE_94 : decode cX7_takesE 94 = .ok (.goto 78, 3) := by decide +kernel
theorem dX7_takesE_97 : decode cX7_takesE 97 = .ok (.aload_n 0, 1) := by decide +kernel
theorem dX7_takesE_98 : decode cX7_takesE 98 = .ok (.getfield 216, 3) := by decide +kernel
theorem dX7_takesE_101 : decode cX7_takesE 101 = .ok (.iconst 3, 1) := by decide +kernel
theorem dX7_takesE_102 : decode cX7_takesE 102 = .ok (.if_icmp .ne 56, 3) := by decide +kernel
theorem dX7_takesE_105 : decode cX7_takesE 105 = .ok (.aload_n 0, 1) := by decide +kernel
theorem dX7_takesE_106 : decode cX7_takesE 106 = .ok (.getfield 222, 3) := by decide +kernel
theorem dX7_takesE_109 : decode cX7_takesE 109 = .ok (.bipush 40, 2) := by decide +kernel
theorem dX7_takesE_111 : decode cX7_takesE 111 = .ok (.if_icmp .ne 47, 3) := by decide +kernel
theorem dX7_takesE_114 : decode cX7_takesE 114 = .ok (.iload_n 1, 1) := by decide +kernel
theorem dX7_takesE_115 : decode cX7_takesE 115 = .ok (.bipush 8, 2) := by decide +kernel
theorem dX7_takesE_117 : decode cX7_takesE 117 = .ok (.if_icmp .ge 41, 3) := by decide +kernel
theorem dX7_takesE_120 : decode cX7_takesE 120 = .ok (.aload_n 0, 1) := by decide +kernel
theorem dX7_takesE_121 : decode cX7_takesE 121 = .ok (.getfield 35, 3) := by decide +kernel
theorem dX7_takesE_124 : decode cX7_takesE 124 = .ok (.aload_n 0, 1) := by decide +kernel
theorem dX7_takesE_125 : decode cX7_takesE 125 = .ok (.getfield 234, 3) := by decide +kernel
theorem dX7_takesE_128 : decode cX7_takesE 128 = .ok (.bipush (-11), 2) := by decide +kernel
theorem dX7_takesE_130 : decode cX7_takesE 130 = .ok (.iastore, 1) := by decide +kernel
theorem dX7_takesE_131 : decode cX7_takesE 131 = .ok (.aload_n 0, 1) := by decide +kernel
theorem dX7_takesE_132 : decode cX7_takesE 132 = .ok (.dup, 1) := by decide +kernel
theorem dX7_takesE_133 : decode cX7_takesE 133 = .ok (.getfield 234, 3) := by decide +kernel
theorem dX7_takesE_136 : decode cX7_takesE 136 = .ok (.iconst 1, 1) := by decide +kernel
theorem dX7_takesE_137 : decode cX7_takesE 137 = .ok (.iadd, 1) := by decide +kernel
theorem dX7_takesE_138 : decode cX7_takesE 138 = .ok (.putfield 234, 3) := by decide +kernel
theorem dX7_takesE_141 : decode cX7_takesE 141 = .ok (.iinc 1 1, 3) := by decide +kernel
theorem dX7_takesE_144 : decode cX7_takesE 144 = .ok (.aload_n 0, 1) := by decide +kernel
theorem dX7_takesE_145 : decode cX7_takesE 145 = .ok (.getfield 38, 3) := by decide +kernel
theorem dX7_takesE_148 : decode cX7_takesE 148 = .ok (.iload_n 1, 1) := by decide +kernel
theorem dX7_takesE_149 : decode cX7_takesE 149 = .ok (.iconst 0, 1) := by decide +kernel
theorem dX7_takesE_150 : decode cX7_takesE 150 = .ok (.bastore, 1) := by decide +kernel
theorem dX7_takesE_151 : decode cX7_takesE 151 = .ok (.aload_n 0, 1) := by decide +kernel
theorem dX7_takesE_152 : decode cX7_takesE 152 = .ok (.invokevirtual 231, 3) := by decide +kernel
theorem dX7_takesE_155 : decode cX7_takesE 155 = .ok (.goto 17, 3) := by decide +kernel
theorem dX7_takesE_158 : decode cX7_takesE 158 = .ok (.aload_n 0, 1) := by decide +kernel
theorem dX7_takesE_159 : decode cX7_takesE 159 = .ok (.invokevirtual 252, 3) := by decide +kernel
theorem dX7_takesE_162 : decode cX7_takesE 162 = .ok (.ifCond .eq 8, 3) := by decide +kernel
theorem dX7_takesE_165 : decode cX7_takesE 165 = .ok (.iconst 0, 1) := by decide +kernel
theorem dX7_takesE_166 : decode cX7_takesE 166 = .ok (.istore_n 3, 1) := by decide +kernel
theorem dX7_takesE_167 : decode cX7_takesE 167 = .ok (.goto 5, 3) := by decide +kernel
theorem dX7_takesE_170 : decode cX7_takesE 170 = .ok (.iconst 0, 1) := by decide +kernel
theorem dX7_takesE_171 : decode cX7_takesE 171 = .ok (.ireturn, 1) := by decide +kernel
theorem dX7_takesE_172 : decode cX7_takesE 172 = .ok (.aload_n 0, 1) := by decide +kernel
theorem dX7_takesE_173 : decode cX7_takesE 173 = .ok (.invokevirtual 256, 3) := by decide +kernel
theorem dX7_takesE_176 : decode cX7_takesE 176 = .ok (.istore_n 2, 1) := by decide +kernel
theorem dX7_takesE_177 : decode cX7_takesE 177 = .ok (.goto (-149), 3) := by decide +kernel
theorem dX7_takesE_180 : decode cX7_takesE 180 = .ok (.aload_n 0, 1) := by decide +kernel
theorem dX7_takesE_181 : decode cX7_takesE 181 = .ok (.getfield 216, 3) := by decide +kernel
theorem dX7_takesE_184 : decode cX7_takesE 184 = .ok (.iconst 3, 1) := by decide +kernel
theorem dX7_takesE_185 : decode cX7_takesE 185 = .ok (.if_icmp .ne 52, 3) := by decide +kernel
theorem dX7_takesE_188 : decode cX7_takesE 188 = .ok (.aload_n 0, 1) := by decide +kernel
theorem dX7_takesE_189 : decode cX7_takesE 189 = .ok (.getfield 222, 3) := by decide +kernel
theorem dX7_takesE_192 : decode cX7_takesE 192 = .ok (.bipush 41, 2) := by decide +kernel
theorem dX7_takesE_194 : decode cX7_takesE 194 = .ok (.if_icmp .ne 43, 3) := by decide +kernel
theorem dX7_takesE_197 : decode cX7_takesE 197 = .ok (.iload_n 1, 1) := by decide +kernel
theorem dX7_takesE_198 : decode cX7_takesE 198 = .ok (.ifCond .le 39, 3) := by decide +kernel
theorem dX7_takesE_201 : decode cX7_takesE 201 = .ok (.aload_n 0, 1) := by decide +kernel
theorem dX7_takesE_202 : decode cX7_takesE 202 = .ok (.iconst 0, 1) := by decide +kernel
theorem dX7_takesE_203 : decode cX7_takesE 203 = .ok (.invokevirtual 249, 3) := by decide +kernel
theorem dX7_takesE_206 : decode cX7_takesE 206 = .ok (.aload_n 0, 1) := by decide +kernel
theorem dX7_takesE_207 : decode cX7_takesE 207 = .ok (.dup, 1) := by decide +kernel
theorem dX7_takesE_208 : decode cX7_takesE 208 = .ok (.getfield 234, 3) := by decide +kernel
theorem dX7_takesE_211 : decode cX7_takesE 211 = .ok (.iconst 1, 1) := by decide +kernel
theorem dX7_takesE_212 : decode cX7_takesE 212 = .ok (.isub, 1) := by decide +kernel
theorem dX7_takesE_213 : decode cX7_takesE 213 = .ok (.putfield 234, 3) := by decide +kernel
theorem dX7_takesE_216 : decode cX7_takesE 216 = .ok (.iinc 1 (-1), 3) := by decide +kernel
theorem dX7_takesE_219 : decode cX7_takesE 219 = .ok (.aload_n 0, 1) := by decide +kernel
theorem dX7_takesE_220 : decode cX7_takesE 220 = .ok (.bipush 6, 2) := by decide +kernel
theorem dX7_takesE_222 : decode cX7_takesE 222 = .ok (.invokevirtual 249, 3) := by decide +kernel
theorem dX7_takesE_225 : decode cX7_takesE 225 = .ok (.aload_n 0, 1) := by decide +kernel
theorem dX7_takesE_226 : decode cX7_takesE 226 = .ok (.invokevirtual 256, 3) := by decide +kernel
theorem dX7_takesE_229 : decode cX7_takesE 229 = .ok (.istore_n 2, 1) := by decide +kernel
theorem dX7_takesE_230 : decode cX7_takesE 230 = .ok (.aload_n 0, 1) := by decide +kernel
theorem dX7_takesE_231 : decode cX7_takesE 231 = .ok (.invokevirtual 231, 3) := by decide +kernel
theorem dX7_takesE_234 : decode cX7_takesE 234 = .ok (.goto (-206), 3) := by decide +kernel
theorem dX7_takesE_237 : decode cX7_takesE 237 = .ok (.aload_n 0, 1) := by decide +kernel
theorem dX7_takesE_238 : decode cX7_takesE 238 = .ok (.invokevirtual 259, 3) := by decide +kernel
theorem dX7_takesE_241 : decode cX7_takesE 241 = .ok (.istore 4, 2) := by decide +kernel
theorem dX7_takesE_243 : decode cX7_takesE 243 = .ok (.iload 4, 2) := by decide +kernel
theorem dX7_takesE_245 : decode cX7_takesE 245 = .ok (.ifCond .eq 21, 3) := by decide +kernel
theorem dX7_takesE_248 : decode cX7_takesE 248 = .ok (.iload 4, 2) := by decide +kernel
theorem dX7_takesE_250 : decode cX7_takesE 250 = .ok (.invokestatic 237, 3) := by decide +kernel
theorem dX7_takesE_253 : decode cX7_takesE 253 = .ok (.iconst 3, 1) := by decide +kernel
theorem dX7_takesE_254 : decode cX7_takesE 254 = .ok (.if_icmp .ne 14, 3) := by decide +kernel
theorem dX7_takesE_257 : decode cX7_takesE 257 = .ok (.aload_n 0, 1) := by decide +kernel
theorem dX7_takesE_258 : decode cX7_takesE 258 = .ok (.getfield 38, 3) := by decide +kernel
theorem dX7_takesE_261 : decode cX7_takesE 261 = .ok (.iload_n 1, 1) := by decide +kernel
theorem dX7_takesE_262 : decode cX7_takesE 262 = .ok (.baload, 1) := by decide +kernel
theorem dX7_takesE_263 : decode cX7_takesE 263 = .ok (.ifCond .eq 5, 3) := by decide +kernel
theorem dX7_takesE_266 : decode cX7_takesE 266 = .ok (.iconst 0, 1) := by decide +kernel
theorem dX7_takesE_267 : decode cX7_takesE 267 = .ok (.ireturn, 1) := by decide +kernel
theorem dX7_takesE_268 : decode cX7_takesE 268 = .ok (.aload_n 0, 1) := by decide +kernel
theorem dX7_takesE_269 : decode cX7_takesE 269 = .ok (.getfield 38, 3) := by decide +kernel
theorem dX7_takesE_272 : decode cX7_takesE 272 = .ok (.iload_n 1, 1) := by decide +kernel
theorem dX7_takesE_273 : decode cX7_takesE 273 = .ok (.iload 4, 2) := by decide +kernel
theorem dX7_takesE_275 : decode cX7_takesE 275 = .ok (.invokestatic 237, 3) := by decide +kernel
theorem dX7_takesE_278 : decode cX7_takesE 278 = .ok (.iconst 3, 1) := by decide +kernel
theorem dX7_takesE_279 : decode cX7_takesE 279 = .ok (.if_icmp .eq 21, 3) := by decide +kernel
theorem dX7_takesE_282 : decode cX7_takesE 282 = .ok (.iload 4, 2) := by decide +kernel
theorem dX7_takesE_284 : decode cX7_takesE 284 = .ok (.invokestatic 237, 3) := by decide +kernel
theorem dX7_takesE_287 : decode cX7_takesE 287 = .ok (.iconst 3, 1) := by decide +kernel
theorem dX7_takesE_288 : decode cX7_takesE 288 = .ok (.if_icmp .le 16, 3) := by decide +kernel
theorem dX7_takesE_291 : decode cX7_takesE 291 = .ok (.aload_n 0, 1) := by decide +kernel
theorem dX7_takesE_292 : decode cX7_takesE 292 = .ok (.getfield 38, 3) := by decide +kernel
theorem dX7_takesE_295 : decode cX7_takesE 295 = .ok (.iload_n 1, 1) := by decide +kernel
theorem dX7_takesE_296 : decode cX7_takesE 296 = .ok (.baload, 1) := by decide +kernel
theorem dX7_takesE_297 : decode cX7_takesE 297 = .ok (.ifCond .eq 7, 3) := by decide +kernel
theorem dX7_takesE_300 : decode cX7_takesE 300 = .ok (.iconst 1, 1) := by decide +kernel
theorem dX7_takesE_301 : decode cX7_takesE 301 = .ok (.goto 4, 3) := by decide +kernel
theorem dX7_takesE_304 : decode cX7_takesE 304 = .ok (.iconst 0, 1) := by decide +kernel
theorem dX7_takesE_305 : decode cX7_takesE 305 = .ok (.bastore, 1) := by decide +kernel
theorem dX7_takesE_306 : decode cX7_takesE 306 = .ok (.aload_n 0, 1) := by decide +kernel
theorem dX7_takesE_307 : decode cX7_takesE 307 = .ok (.iload 4, 2) := by decide +kernel
theorem dX7_takesE_309 : decode cX7_takesE 309 = .ok (.invokestatic 237, 3) := by decide +kernel
theorem dX7_takesE_312 : decode cX7_takesE 312 = .ok (.invokevirtual 249, 3) := by decide +kernel
theorem dX7_takesE_315 : decode cX7_takesE 315 = .ok (.aload_n 0, 1) := by decide +kernel
theorem dX7_takesE_316 : decode cX7_takesE 316 = .ok (.getfield 35, 3) := by decide +kernel
theorem dX7_takesE_319 : decode cX7_takesE 319 = .ok (.aload_n 0, 1) := by decide +kernel
theorem dX7_takesE_320 : decode cX7_takesE 320 = .ok (.getfield 234, 3) := by decide +kernel
theorem dX7_takesE_323 : decode cX7_takesE 323 = .ok (.iload 4, 2) := by decide +kernel
theorem dX7_takesE_325 : decode cX7_takesE 325 = .ok (.iastore, 1) := by decide +kernel
theorem dX7_takesE_326 : decode cX7_takesE 326 = .ok (.aload_n 0, 1) := by decide +kernel
theorem dX7_takesE_327 : decode cX7_takesE 327 = .ok (.dup, 1) := by decide +kernel
theorem dX7_takesE_328 : decode cX7_takesE 328 = .ok (.getfield 234, 3) := by decide +kernel
theorem dX7_takesE_331 : decode cX7_takesE 331 = .ok (.iconst 1, 1) := by decide +kernel
theorem dX7_takesE_332 : decode cX7_takesE 332 = .ok (.iadd, 1) := by decide +kernel
theorem dX7_takesE_333 : decode cX7_takesE 333 = .ok (.putfield 234, 3) := by decide +kernel
theorem dX7_takesE_336 : decode cX7_takesE 336 = .ok (.iconst 1, 1) := by decide +kernel
theorem dX7_takesE_337 : decode cX7_takesE 337 = .ok (.istore_n 3, 1) := by decide +kernel
theorem dX7_takesE_338 : decode cX7_takesE 338 = .ok (.aload_n 0, 1) := by decide +kernel
theorem dX7_takesE_339 : decode cX7_takesE 339 = .ok (.invokevirtual 231, 3) := by decide +kernel
theorem dX7_takesE_342 : decode cX7_takesE 342 = .ok (.goto (-314), 3) := by decide +kernel
theorem dX7_takesE_345 : decode cX7_takesE 345 = .ok (.aload_n 0, 1) := by decide +kernel
theorem dX7_takesE_346 : decode cX7_takesE 346 = .ok (.iconst 0, 1) := by decide +kernel
theorem dX7_takesE_347 : decode cX7_takesE 347 = .ok (.invokevirtual 249, 3) := by decide +kernel
theorem dX7_takesE_350 : decode cX7_takesE 350 = .ok (.iload_n 1, 1) := by decide +kernel
theorem dX7_takesE_351 : decode cX7_takesE 351 = .ok (.ifCond .ne 7, 3) := by decide +kernel
theorem dX7_takesE_354 : decode cX7_takesE 354 = .ok (.iconst 1, 1) := by decide +kernel
theorem dX7_takesE_355 : decode cX7_takesE 355 = .ok (.goto 4, 3) := by decide +kernel
theorem dX7_takesE_358 : decode cX7_takesE 358 = .ok (.iconst 0, 1) := by decide +kernel
theorem dX7_takesE_359 : decode cX7_takesE 359 = .ok (.ireturn, 1) := by decide +kernel
theorem dX7_notsOpen_0 : decode cX7_notsOpen 0 = .ok (.iconst 0, 1) := by decide +kernel
theorem dX7_notsOpen_1 : decode cX7_notsOpen 1 = .ok (.istore_n 1, 1) := by decide +kernel
theorem dX7_notsOpen_2 : decode cX7_notsOpen 2 = .ok (.iconst 0, 1) := by decide +kernel
theorem dX7_notsOpen_3 : decode cX7_notsOpen 3 = .ok (.istore_n 2, 1) := by decide +kernel
theorem dX7_notsOpen_4 : decode cX7_notsOpen 4 = .ok (.iload_n 2, 1) := by decide +kernel
theorem dX7_notsOpen_5 : decode cX7_notsOpen 5 = .ok (.aload_n 0, 1) := by decide +kernel
theorem dX7_notsOpen_6 : decode cX7_notsOpen 6 = .ok (.getfield 234, 3) := by decide +kernel
theorem dX7_notsOpen_9 : decode cX7_notsOpen 9 = .ok (.if_icmp .ge 28, 3) := by decide +kernel
theorem dX7_notsOpen_12 : decode cX7_notsOpen 12 = .ok (.iload_n 1, 1) := by decide +kernel
theorem dX7_notsOpen_13 : decode cX7_notsOpen 13 = .ok (.aload_n 0, 1) := by decide +kernel
theorem dX7_notsOpen_14 : decode cX7_notsOpen 14 = .ok (.getfield 35, 3) := by decide +kernel
theorem dX7_notsOpen_17 : decode cX7_notsOpen 17 = .ok (.iload_n 2, 1) := by decide +kernel
theorem dX7_notsOpen_18 : decode cX7_notsOpen 18 = .ok (.iaload, 1) := by decide +kernel
theorem dX7_notsOpen_19 : decode cX7_notsOpen 19 = .ok (.bipush (-10), 2) := by decide +kernel
theorem dX7_notsOpen_21 : decode cX7_notsOpen 21 = .ok (.if_icmp .ne 7, 3) := by decide +kernel
end
section
theorem dX7_notsOpen_24 : decode cX7_notsOpen 24 = .ok (.iconst 1, 1) := by decide +kernel
theorem dX7_notsOpen_25 : decode cX7_notsOpen 25 = .ok (.goto 4, 3) := by decide +kernel
theorem dX7_notsOpen_28 : decode cX7_notsOpen 28 = .ok (.iconst 0, 1) := by decide +kernel
theorem dX7_notsOpen_29 : decode cX7_notsOpen 29 = .ok (.iadd, 1) := by decide +kernel
theorem dX7_notsOpen_30 : decode cX7_notsOpen 30 = .ok (.istore_n 1, 1) := by decide +kernel
theorem dX7_notsOpen_31 : decode cX7_notsOpen 31 = .ok (.iinc 2 1, 3) := by decide +kernel
theorem dX7_notsOpen_34 : decode cX7_notsOpen 34 = .ok (.goto (-30), 3) := by decide +kernel
theorem dX7_notsOpen_37 : decode cX7_notsOpen 37 = .ok (.iload_n 1, 1) := by decide +kernel
theorem dX7_notsOpen_38 : decode cX7_notsOpen 38 = .ok (.ireturn, 1) := by decide +kernel
theorem dX7_text_0 : decode cX7_text 0 = .ok (.aload_n 0, 1) := by decide +kernel
theorem dX7_text_1 : decode cX7_text 1 = .ok (.iconst 0, 1) := by decide +kernel
theorem dX7_text_2 : decode cX7_text 2 = .ok (.putfield 207, 3) := by decide +kernel
theorem dX7_text_5 : decode cX7_text 5 = .ok (.aload_n 0, 1) := by decide +kernel
theorem dX7_text_6 : decode cX7_text 6 = .ok (.iconst (-1), 1) := by decide +kernel
theorem dX7_text_7 : decode cX7_text 7 = .ok (.putfield 213, 3) := by decide +kernel
theorem dX7_text_10 : decode cX7_text 10 = .ok (.aload_n 0, 1) := by decide +kernel
theorem dX7_text_11 : decode cX7_text 11 = .ok (.invokevirtual 231, 3) := by decide +kernel
theorem dX7_text_14 : decode cX7_text 14 = .ok (.aload_n 0, 1) := by decide +kernel
theorem dX7_text_15 : decode cX7_text 15 = .ok (.invokevirtual 262, 3) := by decide +kernel
theorem dX7_text_18 : decode cX7_text 18 = .ok (.ifCond .eq 14, 3) := by decide +kernel
theorem dX7_text_21 : decode cX7_text 21 = .ok (.aload_n 0, 1) := by decide +kernel
theorem dX7_text_22 : decode cX7_text 22 = .ok (.invokevirtual 265, 3) := by decide +kernel
theorem dX7_text_25 : decode cX7_text 25 = .ok (.ifCond .eq 7, 3) := by decide +kernel
theorem dX7_text_28 : decode cX7_text 28 = .ok (.iconst 1, 1) := by decide +kernel
theorem dX7_text_29 : decode cX7_text 29 = .ok (.goto 4, 3) := by decide +kernel
theorem dX7_text_32 : decode cX7_text 32 = .ok (.iconst 0, 1) := by decide +kernel
theorem dX7_text_33 : decode cX7_text 33 = .ok (.istore_n 1, 1) := by decide +kernel
theorem dX7_text_34 : decode cX7_text 34 = .ok (.aload_n 0, 1) := by decide +kernel
theorem dX7_text_35 : decode cX7_text 35 = .ok (.iconst 0, 1) := by decide +kernel
theorem dX7_text_36 : decode cX7_text 36 = .ok (.putfield 203, 3) := by decide +kernel
theorem dX7_text_39 : decode cX7_text 39 = .ok (.iload_n 1, 1) := by decide +kernel
theorem dX7_text_40 : decode cX7_text 40 = .ok (.ifCond .ne 11, 3) := by decide +kernel
theorem dX7_text_43 : decode cX7_text 43 = .ok (.bipush (-100), 2) := by decide +kernel
theorem dX7_text_45 : decode cX7_text 45 = .ok (.aload_n 0, 1) := by decide +kernel
theorem dX7_text_46 : decode cX7_text 46 = .ok (.getfield 210, 3) := by decide +kernel
theorem dX7_text_49 : decode cX7_text 49 = .ok (.isub, 1) := by decide +kernel
theorem dX7_text_50 : decode cX7_text 50 = .ok (.ireturn, 1) := by decide +kernel
theorem dX7_text_51 : decode cX7_text 51 = .ok (.aload_n 0, 1) := by decide +kernel
theorem dX7_text_52 : decode cX7_text 52 = .ok (.getfield 9, 3) := by decide +kernel
theorem dX7_text_55 : decode cX7_text 55 = .ok (.bipush 6, 2) := by decide +kernel
theorem dX7_text_57 : decode cX7_text 57 = .ok (.iaload, 1) := by decide +kernel
theorem dX7_text_58 : decode cX7_text 58 = .ok (.bipush 14, 2) := by decide +kernel
theorem dX7_text_60 : decode cX7_text 60 = .ok (.if_icmp .ne 6, 3) := by decide +kernel
theorem dX7_text_63 : decode cX7_text 63 = .ok (.ldc 120, 2) := by decide +kernel
theorem dX7_text_65 : decode cX7_text 65 = .ok (.ireturn, 1) := by decide +kernel
theorem dX7_text_66 : decode cX7_text 66 = .ok (.aload_n 0, 1) := by decide +kernel
theorem dX7_text_67 : decode cX7_text 67 = .ok (.getfield 9, 3) := by decide +kernel
theorem dX7_text_70 : decode cX7_text 70 = .ok (.bipush 6, 2) := by decide +kernel
theorem dX7_text_72 : decode cX7_text 72 = .ok (.iaload, 1) := by decide +kernel
theorem dX7_text_73 : decode cX7_text 73 = .ok (.istore_n 2, 1) := by decide +kernel
theorem dX7_text_74 : decode cX7_text 74 = .ok (.aload_n 0, 1) := by decide +kernel
theorem dX7_text_75 : decode cX7_text 75 = .ok (.getfield 9, 3) := by decide +kernel
theorem dX7_text_78 : decode cX7_text 78 = .ok (.bipush 99, 2) := by decide +kernel
theorem dX7_text_80 : decode cX7_text 80 = .ok (.iconst 2, 1) := by decide +kernel
theorem dX7_text_81 : decode cX7_text 81 = .ok (.iload_n 2, 1) := by decide +kernel
theorem dX7_text_82 : decode cX7_text 82 = .ok (.imul, 1) := by decide +kernel
theorem dX7_text_83 : decode cX7_text 83 = .ok (.iadd, 1) := by decide +kernel
theorem dX7_text_84 : decode cX7_text 84 = .ok (.sipush 1000, 3) := by decide +kernel
theorem dX7_text_87 : decode cX7_text 87 = .ok (.aload_n 0, 1) := by decide +kernel
theorem dX7_text_88 : decode cX7_text 88 = .ok (.getfield 228, 3) := by decide +kernel
theorem dX7_text_91 : decode cX7_text 91 = .ok (.imul, 1) := by decide +kernel
theorem dX7_text_92 : decode cX7_text 92 = .ok (.aload_n 0, 1) := by decide +kernel
theorem dX7_text_93 : decode cX7_text 93 = .ok (.getfield 240, 3) := by decide +kernel
theorem dX7_text_96 : decode cX7_text 96 = .ok (.iadd, 1) := by decide +kernel
theorem dX7_text_97 : decode cX7_text 97 = .ok (.iastore, 1) := by decide +kernel
theorem dX7_text_98 : decode cX7_text 98 = .ok (.aload_n 0, 1) := by decide +kernel
theorem dX7_text_99 : decode cX7_text 99 = .ok (.getfield 9, 3) := by decide +kernel
theorem dX7_text_102 : decode cX7_text 102 = .ok (.bipush 99, 2) := by decide +kernel
theorem dX7_text_104 : decode cX7_text 104 = .ok (.iconst 2, 1) := by decide +kernel
theorem dX7_text_105 : decode cX7_text 105 = .ok (.iload_n 2, 1) := by decide +kernel
theorem dX7_text_106 : decode cX7_text 106 = .ok (.imul, 1) := by decide +kernel
theorem dX7_text_107 : decode cX7_text 107 = .ok (.iadd, 1) := by decide +kernel
theorem dX7_text_108 : decode cX7_text 108 = .ok (.iconst 1, 1) := by decide +kernel
theorem dX7_text_109 : decode cX7_text 109 = .ok (.iadd, 1) := by decide +kernel
theorem dX7_text_110 : decode cX7_text 110 = .ok (.aload_n 0, 1) := by decide +kernel
theorem dX7_text_111 : decode cX7_text 111 = .ok (.getfield 246, 3) := by decide +kernel
theorem dX7_text_114 : decode cX7_text 114 = .ok (.iastore, 1) := by decide +kernel
theorem dX7_text_115 : decode cX7_text 115 = .ok (.iconst 0, 1) := by decide +kernel
theorem dX7_text_116 : decode cX7_text 116 = .ok (.istore_n 3, 1) := by decide +kernel
theorem dX7_text_117 : decode cX7_text 117 = .ok (.iload_n 3, 1) := by decide +kernel
theorem dX7_text_118 : decode cX7_text 118 = .ok (.aload_n 0, 1) := by decide +kernel
theorem dX7_text_119 : decode cX7_text 119 = .ok (.getfield 240, 3) := by decide +kernel
theorem dX7_text_122 : decode cX7_text 122 = .ok (.if_icmp .ge 29, 3) := by decide +kernel
theorem dX7_text_125 : decode cX7_text 125 = .ok (.aload_n 0, 1) := by decide +kernel
theorem dX7_text_126 : decode cX7_text 126 = .ok (.getfield 9, 3) := by decide +kernel
theorem dX7_text_129 : decode cX7_text 129 = .ok (.bipush 127, 2) := by decide +kernel
theorem dX7_text_131 : decode cX7_text 131 = .ok (.bipush 96, 2) := by decide +kernel
theorem dX7_text_133 : decode cX7_text 133 = .ok (.iload_n 2, 1) := by decide +kernel
theorem dX7_text_134 : decode cX7_text 134 = .ok (.imul, 1) := by decide +kernel
theorem dX7_text_135 : decode cX7_text 135 = .ok (.iadd, 1) := by decide +kernel
theorem dX7_text_136 : decode cX7_text 136 = .ok (.iload_n 3, 1) := by decide +kernel
theorem dX7_text_137 : decode cX7_text 137 = .ok (.iadd, 1) := by decide +kernel
theorem dX7_text_138 : decode cX7_text 138 = .ok (.aload_n 0, 1) := by decide +kernel
theorem dX7_text_139 : decode cX7_text 139 = .ok (.getfield 32, 3) := by decide +kernel
theorem dX7_text_142 : decode cX7_text 142 = .ok (.iload_n 3, 1) := by decide +kernel
theorem dX7_text_143 : decode cX7_text 143 = .ok (.iaload, 1) := by decide +kernel
theorem dX7_text_144 : decode cX7_text 144 = .ok (.iastore, 1) := by decide +kernel
theorem dX7_text_145 : decode cX7_text 145 = .ok (.iinc 3 1, 3) := by decide +kernel
theorem dX7_text_148 : decode cX7_text 148 = .ok (.goto (-31), 3) := by decide +kernel
theorem dX7_text_151 : decode cX7_text 151 = .ok (.aload_n 0, 1) := by decide +kernel
theorem dX7_text_152 : decode cX7_text 152 = .ok (.getfield 9, 3) := by decide +kernel
theorem dX7_text_155 : decode cX7_text 155 = .ok (.bipush 6, 2) := by decide +kernel
theorem dX7_text_157 : decode cX7_text 157 = .ok (.dup2, 1) := by decide +kernel
theorem dX7_text_158 : decode cX7_text 158 = .ok (.iaload, 1) := by decide +kernel
theorem dX7_text_159 : decode cX7_text 159 = .ok (.iconst 1, 1) := by decide +kernel
theorem dX7_text_160 : decode cX7_text 160 = .ok (.iadd, 1) := by decide +kernel
theorem dX7_text_161 : decode cX7_text 161 = .ok (.iastore, 1) := by decide +kernel
theorem dX7_text_162 : decode cX7_text 162 = .ok (.iload_n 2, 1) := by decide +kernel
theorem dX7_text_163 : decode cX7_text 163 = .ok (.ireturn, 1) := by decide +kernel
theorem dX7_textTold_0 : decode cX7_textTold 0 = .ok (.iload_n 1, 1) := by decide +kernel
theorem dX7_textTold_1 : decode cX7_textTold 1 = .ok (.iconst 0, 1) := by decide +kernel
theorem dX7_textTold_2 : decode cX7_textTold 2 = .ok (.aload_n 0, 1) := by decide +kernel
theorem dX7_textTold_3 : decode cX7_textTold 3 = .ok (.getfield 9, 3) := by decide +kernel
theorem dX7_textTold_6 : decode cX7_textTold 6 = .ok (.bipush 6, 2) := by decide +kernel
theorem dX7_textTold_8 : decode cX7_textTold 8 = .ok (.iaload, 1) := by decide +kernel
theorem dX7_textTold_9 : decode cX7_textTold 9 = .ok (.iconst 1, 1) := by decide +kernel
theorem dX7_textTold_10 : decode cX7_textTold 10 = .ok (.isub, 1) := by decide +kernel
theorem dX7_textTold_11 : decode cX7_textTold 11 = .ok (.invokestatic 75, 3) := by decide +kernel
theorem dX7_textTold_14 : decode cX7_textTold 14 = .ok (.ifCond .eq 12, 3) := by decide +kernel
theorem dX7_textTold_17 : decode cX7_textTold 17 = .ok (.iload_n 2, 1) := by decide +kernel
theorem dX7_textTold_18 : decode cX7_textTold 18 = .ok (.iconst 0, 1) := by decide +kernel
theorem dX7_textTold_19 : decode cX7_textTold 19 = .ok (.iconst 1, 1) := by decide +kernel
theorem dX7_textTold_20 : decode cX7_textTold 20 = .ok (.invokestatic 75, 3) := by decide +kernel
theorem dX7_textTold_23 : decode cX7_textTold 23 = .ok (.ifCond .ne 6, 3) := by decide +kernel
theorem dX7_textTold_26 : decode cX7_textTold 26 = .ok (.ldc 119, 2) := by decide +kernel
theorem dX7_textTold_28 : decode cX7_textTold 28 = .ok (.ireturn, 1) := by decide +kernel
theorem dX7_textTold_29 : decode cX7_textTold 29 = .ok (.iload_n 2, 1) := by decide +kernel
theorem dX7_textTold_30 : decode cX7_textTold 30 = .ok (.ifCond .ne 21, 3) := by decide +kernel
theorem dX7_textTold_33 : decode cX7_textTold 33 = .ok (.aload_n 0, 1) := by decide +kernel
theorem dX7_textTold_34 : decode cX7_textTold 34 = .ok (.getfield 9, 3) := by decide +kernel
theorem dX7_textTold_37 : decode cX7_textTold 37 = .ok (.bipush 99, 2) := by decide +kernel
theorem dX7_textTold_39 : decode cX7_textTold 39 = .ok (.iconst 2, 1) := by decide +kernel
theorem dX7_textTold_40 : decode cX7_textTold 40 = .ok (.iload_n 1, 1) := by decide +kernel
theorem dX7_textTold_41 : decode cX7_textTold 41 = .ok (.imul, 1) := by decide +kernel
theorem dX7_textTold_42 : decode cX7_textTold 42 = .ok (.iadd, 1) := by decide +kernel
theorem dX7_textTold_43 : decode cX7_textTold 43 = .ok (.iaload, 1) := by decide +kernel
theorem dX7_textTold_44 : decode cX7_textTold 44 = .ok (.sipush 1000, 3) := by decide +kernel
theorem dX7_textTold_47 : decode cX7_textTold 47 = .ok (.idiv, 1) := by decide +kernel
theorem dX7_textTold_48 : decode cX7_textTold 48 = .ok (.goto 16, 3) := by decide +kernel
theorem dX7_textTold_51 : decode cX7_textTold 51 = .ok (.aload_n 0, 1) := by decide +kernel
theorem dX7_textTold_52 : decode cX7_textTold 52 = .ok (.getfield 9, 3) := by decide +kernel
theorem dX7_textTold_55 : decode cX7_textTold 55 = .ok (.bipush 99, 2) := by decide +kernel
theorem dX7_textTold_57 : decode cX7_textTold 57 = .ok (.iconst 2, 1) := by decide +kernel
theorem dX7_textTold_58 : decode cX7_textTold 58 = .ok (.iload_n 1, 1) := by decide +kernel
theorem dX7_textTold_59 : decode cX7_textTold 59 = .ok (.imul, 1) := by decide +kernel
theorem dX7_textTold_60 : decode cX7_textTold 60 = .ok (.iadd, 1) := by decide +kernel
theorem dX7_textTold_61 : decode cX7_textTold 61 = .ok (.iconst 1, 1) := by decide +kernel
theorem dX7_textTold_62 : decode cX7_textTold 62 = .ok (.iadd, 1) := by decide +kernel
theorem dX7_textTold_63 : decode cX7_textTold 63 = .ok (.iaload, 1) := by decide +kernel
theorem dX7_textTold_64 : decode cX7_textTold 64 = .ok (.ireturn, 1) := by decide +kernel
theorem dX7_counts_0 : decode cX7_counts 0 = .ok (.aload_n 0, 1) := by decide +kernel
theorem dX7_counts_1 : decode cX7_counts 1 = .ok (.getfield 9, 3) := by decide +kernel
theorem dX7_counts_4 : decode cX7_counts 4 = .ok (.bipush 6, 2) := by decide +kernel
theorem dX7_counts_6 : decode cX7_counts 6 = .ok (.iaload, 1) := by decide +kernel
theorem dX7_counts_7 : decode cX7_counts 7 = .ok (.iconst 1, 1) := by decide +kernel
theorem dX7_counts_8 : decode cX7_counts 8 = .ok (.isub, 1) := by decide +kernel
theorem dX7_counts_9 : decode cX7_counts 9 = .ok (.istore_n 2, 1) := by decide +kernel
theorem dX7_counts_10 : decode cX7_counts 10 = .ok (.iload_n 2, 1) := by decide +kernel
theorem dX7_counts_11 : decode cX7_counts 11 = .ok (.ifCond .lt 30, 3) := by decide +kernel
theorem dX7_counts_14 : decode cX7_counts 14 = .ok (.aload_n 0, 1) := by decide +kernel
theorem dX7_counts_15 : decode cX7_counts 15 = .ok (.getfield 9, 3) := by decide +kernel
theorem dX7_counts_18 : decode cX7_counts 18 = .ok (.bipush 99, 2) := by decide +kernel
theorem dX7_counts_20 : decode cX7_counts 20 = .ok (.iconst 2, 1) := by decide +kernel
theorem dX7_counts_21 : decode cX7_counts 21 = .ok (.iload_n 2, 1) := by decide +kernel
theorem dX7_counts_22 : decode cX7_counts 22 = .ok (.imul, 1) := by decide +kernel
theorem dX7_counts_23 : decode cX7_counts 23 = .ok (.iadd, 1) := by decide +kernel
theorem dX7_counts_24 : decode cX7_counts 24 = .ok (.iaload, 1) := by decide +kernel
theorem dX7_counts_25 : decode cX7_counts 25 = .ok (.sipush 1000, 3) := by decide +kernel
theorem dX7_counts_28 : decode cX7_counts 28 = .ok (.idiv, 1) := by decide +kernel
theorem dX7_counts_29 : decode cX7_counts 29 = .ok (.iload_n 1, 1) := by decide +kernel
theorem dX7_counts_30 : decode cX7_counts 30 = .ok (.if_icmp .ne 5, 3) := by decide +kernel
theorem dX7_counts_33 : decode cX7_counts 33 = .ok (.iload_n 2, 1) := by decide +kernel
theorem dX7_counts_34 : decode cX7_counts 34 = .ok (.ireturn, 1) := by decide +kernel
theorem dX7_counts_35 : decode cX7_counts 35 = .ok (.iinc 2 (-1), 3) := by decide +kernel
theorem dX7_counts_38 : decode cX7_counts 38 = .ok (.goto (-28), 3) := by decide +kernel
theorem dX7_counts_41 : decode cX7_counts 41 = .ok (.iconst (-1), 1) := by decide +kernel
theorem dX7_counts_42 : decode cX7_counts 42 = .ok (.ireturn, 1) := by decide +kernel
theorem dX7_why_0 : decode cX7_why 0 = .ok (.iload_n 1, 1) := by decide +kernel
theorem dX7_why_1 : decode cX7_why 1 = .ok (.iconst 0, 1) := by decide +kernel
theorem dX7_why_2 : decode cX7_why 2 = .ok (.iconst 2, 1) := by decide +kernel
theorem dX7_why_3 : decode cX7_why 3 = .ok (.invokestatic 75, 3) := by decide +kernel
theorem dX7_why_6 : decode cX7_why 6 = .ok (.ifCond .ne 6, 3) := by decide +kernel
theorem dX7_why_9 : decode cX7_why 9 = .ok (.ldc 119, 2) := by decide +kernel
theorem dX7_why_11 : decode cX7_why 11 = .ok (.ireturn, 1) := by decide +kernel
theorem dX7_why_12 : decode cX7_why 12 = .ok (.aload_n 0, 1) := by decide +kernel
theorem dX7_why_13 : decode cX7_why 13 = .ok (.iload_n 1, 1) := by decide +kernel
theorem dX7_why_14 : decode cX7_why 14 = .ok (.invokevirtual 102, 3) := by decide +kernel
theorem dX7_why_17 : decode cX7_why 17 = .ok (.istore_n 2, 1) := by decide +kernel
theorem dX7_why_18 : decode cX7_why 18 = .ok (.iload_n 2, 1) := by decide +kernel
theorem dX7_why_19 : decode cX7_why 19 = .ok (.ifCond .ge 8, 3) := by decide +kernel
theorem dX7_why_22 : decode cX7_why 22 = .ok (.ldc 191, 2) := by decide +kernel
theorem dX7_why_24 : decode cX7_why 24 = .ok (.goto 4, 3) := by decide +kernel
theorem dX7_why_27 : decode cX7_why 27 = .ok (.iload_n 2, 1) := by decide +kernel
theorem dX7_why_28 : decode cX7_why 28 = .ok (.ireturn, 1) := by decide +kernel
theorem dX7_two_0 : decode cX7_two 0 = .ok (.iload_n 0, 1) := by decide +kernel
theorem dX7_two_1 : decode cX7_two 1 = .ok (.tableswitch 120 (-8) (-1) #[116, 112, 108, 97, 86, 75, 61, 47], 47) := by decide +kernel
theorem dX7_two_48 : decode cX7_two 48 = .ok (.iload_n 1, 1) := by decide +kernel
theorem dX7_two_49 : decode cX7_two 49 = .ok (.ifCond .ne 7, 3) := by decide +kernel
theorem dX7_two_52 : decode cX7_two 52 = .ok (.iload_n 2, 1) := by decide +kernel
theorem dX7_two_53 : decode cX7_two 53 = .ok (.ifCond .eq 7, 3) := by decide +kernel
theorem dX7_two_56 : decode cX7_two 56 = .ok (.iconst 1, 1) := by decide +kernel
theorem dX7_two_57 : decode cX7_two 57 = .ok (.goto 4, 3) := by decide +kernel
theorem dX7_two_60 : decode cX7_two 60 = .ok (.iconst 0, 1) := by decide +kernel
theorem dX7_two_61 : decode cX7_two 61 = .ok (.ireturn, 1) := by decide +kernel
theorem dX7_two_62 : decode cX7_two 62 = .ok (.iload_n 1, 1) := by decide +kernel
theorem dX7_two_63 : decode cX7_two 63 = .ok (.ifCond .eq 11, 3) := by decide +kernel
theorem dX7_two_66 : decode cX7_two 66 = .ok (.iload_n 2, 1) := by decide +kernel
theorem dX7_two_67 : decode cX7_two 67 = .ok (.ifCond .eq 7, 3) := by decide +kernel
theorem dX7_two_70 : decode cX7_two 70 = .ok (.iconst 1, 1) := by decide +kernel
theorem dX7_two_71 : decode cX7_two 71 = .ok (.goto 4, 3) := by decide +kernel
theorem dX7_two_74 : decode cX7_two 74 = .ok (.iconst 0, 1) := by decide +kernel
theorem dX7_two_75 : decode cX7_two 75 = .ok (.ireturn, 1) := by decide +kernel
theorem dX7_two_76 : decode cX7_two 76 = .ok (.iload_n 1, 1) := by decide +kernel
theorem dX7_two_77 : decode cX7_two 77 = .ok (.iload_n 2, 1) := by decide +kernel
theorem dX7_two_78 : decode cX7_two 78 = .ok (.if_icmp .ge 7, 3) := by decide +kernel
theorem dX7_two_81 : decode cX7_two 81 = .ok (.iconst 1, 1) := by decide +kernel
theorem dX7_two_82 : decode cX7_two 82 = .ok (.goto 4, 3) := by decide +kernel
theorem dX7_two_85 : decode cX7_two 85 = .ok (.iconst 0, 1) := by decide +kernel
theorem dX7_two_86 : decode cX7_two 86 = .ok (.ireturn, 1) := by decide +kernel
theorem dX7_two_87 : decode cX7_two 87 = .ok (.iload_n 1, 1) := by decide +kernel
theorem dX7_two_88 : decode cX7_two 88 = .ok (.iload_n 2, 1) := by decide +kernel
theorem dX7_two_89 : decode cX7_two 89 = .ok (.if_icmp .ne 7, 3) := by decide +kernel
theorem dX7_two_92 : decode cX7_two 92 = .ok (.iconst 1, 1) := by decide +kernel
theorem dX7_two_93 : decode cX7_two 93 = .ok (.goto 4, 3) := by decide +kernel
theorem dX7_two_96 : decode cX7_two 96 = .ok (.iconst 0, 1) := by decide +kernel
theorem dX7_two_97 : decode cX7_two 97 = .ok (.ireturn, 1) := by decide +kernel
theorem dX7_two_98 : decode cX7_two 98 = .ok (.iload_n 1, 1) := by decide +kernel
theorem dX7_two_99 : decode cX7_two 99 = .ok (.iload_n 2, 1) := by decide +kernel
theorem dX7_two_100 : decode cX7_two 100 = .ok (.if_icmp .le 7, 3) := by decide +kernel
theorem dX7_two_103 : decode cX7_two 103 = .ok (.iconst 1, 1) := by decide +kernel
theorem dX7_two_104 : decode cX7_two 104 = .ok (.goto 4, 3) := by decide +kernel
theorem dX7_two_107 : decode cX7_two 107 = .ok (.iconst 0, 1) := by decide +kernel
theorem dX7_two_108 : decode cX7_two 108 = .ok (.ireturn, 1) := by decide +kernel
theorem dX7_two_109 : decode cX7_two 109 = .ok (.iload_n 1, 1) := by decide +kernel
theorem dX7_two_110 : decode cX7_two 110 = .ok (.iload_n 2, 1) := by decide +kernel
theorem dX7_two_111 : decode cX7_two 111 = .ok (.iadd, 1) := by decide +kernel
theorem dX7_two_112 : decode cX7_two 112 = .ok (.ireturn, 1) := by decide +kernel
theorem dX7_two_113 : decode cX7_two 113 = .ok (.iload_n 1, 1) := by decide +kernel
theorem dX7_two_114 : decode cX7_two 114 = .ok (.iload_n 2, 1) := by decide +kernel
theorem dX7_two_115 : decode cX7_two 115 = .ok (.isub, 1) := by decide +kernel
theorem dX7_two_116 : decode cX7_two 116 = .ok (.ireturn, 1) := by decide +kernel
theorem dX7_two_117 : decode cX7_two 117 = .ok (.iload_n 1, 1) := by decide +kernel
theorem dX7_two_118 : decode cX7_two 118 = .ok (.iload_n 2, 1) := by decide +kernel
theorem dX7_two_119 : decode cX7_two 119 = .ok (.imul, 1) := by decide +kernel
theorem dX7_two_120 : decode cX7_two 120 = .ok (.ireturn, 1) := by decide +kernel
theorem dX7_two_121 : decode cX7_two 121 = .ok (.iload_n 2, 1) := by decide +kernel
theorem dX7_two_122 : decode cX7_two 122 = .ok (.ifCond .ne 7, 3) := by decide +kernel
theorem dX7_two_125 : decode cX7_two 125 = .ok (.iconst 0, 1) := by decide +kernel
theorem dX7_two_126 : decode cX7_two 126 = .ok (.goto 6, 3) := by decide +kernel
theorem dX7_two_129 : decode cX7_two 129 = .ok (.iload_n 1, 1) := by decide +kernel
theorem dX7_two_130 : decode cX7_two 130 = .ok (.iload_n 2, 1) := by decide +kernel
theorem dX7_two_131 : decode cX7_two 131 = .ok (.idiv, 1) := by decide +kernel
theorem dX7_two_132 : decode cX7_two 132 = .ok (.ireturn, 1) := by decide +kernel
theorem dX7_worksOut_0 : decode cX7_worksOut 0 = .ok (.iconst 0, 1) := by decide +kernel
theorem dX7_worksOut_1 : decode cX7_worksOut 1 = .ok (.istore_n 2, 1) := by decide +kernel
theorem dX7_worksOut_2 : decode cX7_worksOut 2 = .ok (.aload_n 0, 1) := by decide +kernel
theorem dX7_worksOut_3 : decode cX7_worksOut 3 = .ok (.getfield 9, 3) := by decide +kernel
theorem dX7_worksOut_6 : decode cX7_worksOut 6 = .ok (.bipush 99, 2) := by decide +kernel
theorem dX7_worksOut_8 : decode cX7_worksOut 8 = .ok (.iconst 2, 1) := by decide +kernel
theorem dX7_worksOut_9 : decode cX7_worksOut 9 = .ok (.iload_n 1, 1) := by decide +kernel
theorem dX7_worksOut_10 : decode cX7_worksOut 10 = .ok (.imul, 1) := by decide +kernel
theorem dX7_worksOut_11 : decode cX7_worksOut 11 = .ok (.iadd, 1) := by decide +kernel
theorem dX7_worksOut_12 : decode cX7_worksOut 12 = .ok (.iaload, 1) := by decide +kernel
theorem dX7_worksOut_13 : decode cX7_worksOut 13 = .ok (.sipush 1000, 3) := by decide +kernel
theorem dX7_worksOut_16 : decode cX7_worksOut 16 = .ok (.irem, 1) := by decide +kernel
theorem dX7_worksOut_17 : decode cX7_worksOut 17 = .ok (.istore_n 3, 1) := by decide +kernel
theorem dX7_worksOut_18 : decode cX7_worksOut 18 = .ok (.iconst 0, 1) := by decide +kernel
theorem dX7_worksOut_19 : decode cX7_worksOut 19 = .ok (.istore 4, 2) := by decide +kernel
theorem dX7_worksOut_21 : decode cX7_worksOut 21 = .ok (.iload 4, 2) := by decide +kernel
theorem dX7_worksOut_23 : decode cX7_worksOut 23 = .ok (.iload_n 3, 1) := by decide +kernel
theorem dX7_worksOut_24 : decode cX7_worksOut 24 = .ok (.if_icmp .ge 131, 3) := by decide +kernel
theorem dX7_worksOut_27 : decode cX7_worksOut 27 = .ok (.aload_n 0, 1) := by decide +kernel
theorem dX7_worksOut_28 : decode cX7_worksOut 28 = .ok (.getfield 9, 3) := by decide +kernel
theorem dX7_worksOut_31 : decode cX7_worksOut 31 = .ok (.bipush 127, 2) := by decide +kernel
theorem dX7_worksOut_33 : decode cX7_worksOut 33 = .ok (.bipush 96, 2) := by decide +kernel
theorem dX7_worksOut_35 : decode cX7_worksOut 35 = .ok (.iload_n 1, 1) := by decide +kernel
theorem dX7_worksOut_36 : decode cX7_worksOut 36 = .ok (.imul, 1) := by decide +kernel
theorem dX7_worksOut_37 : decode cX7_worksOut 37 = .ok (.iadd, 1) := by decide +kernel
theorem dX7_worksOut_38 : decode cX7_worksOut 38 = .ok (.iload 4, 2) := by decide +kernel
theorem dX7_worksOut_40 : decode cX7_worksOut 40 = .ok (.iadd, 1) := by decide +kernel
theorem dX7_worksOut_41 : decode cX7_worksOut 41 = .ok (.iaload, 1) := by decide +kernel
theorem dX7_worksOut_42 : decode cX7_worksOut 42 = .ok (.istore 5, 2) := by decide +kernel
theorem dX7_worksOut_44 : decode cX7_worksOut 44 = .ok (.iload 5, 2) := by decide +kernel
theorem dX7_worksOut_46 : decode cX7_worksOut 46 = .ok (.ifCond .lt 39, 3) := by decide +kernel
theorem dX7_worksOut_49 : decode cX7_worksOut 49 = .ok (.aload_n 0, 1) := by decide +kernel
theorem dX7_worksOut_50 : decode cX7_worksOut 50 = .ok (.getfield 42, 3) := by decide +kernel
theorem dX7_worksOut_53 : decode cX7_worksOut 53 = .ok (.iload_n 2, 1) := by decide +kernel
theorem dX7_worksOut_54 : decode cX7_worksOut 54 = .ok (.iload 5, 2) := by decide +kernel
theorem dX7_worksOut_56 : decode cX7_worksOut 56 = .ok (.sipush 10000, 3) := by decide +kernel
theorem dX7_worksOut_59 : decode cX7_worksOut 59 = .ok (.if_icmp .ge 8, 3) := by decide +kernel
theorem dX7_worksOut_62 : decode cX7_worksOut 62 = .ok (.iload 5, 2) := by decide +kernel
theorem dX7_worksOut_64 : decode cX7_worksOut 64 = .ok (.goto 14, 3) := by decide +kernel
theorem dX7_worksOut_67 : decode cX7_worksOut 67 = .ok (.aload_n 0, 1) := by decide +kernel
theorem dX7_worksOut_68 : decode cX7_worksOut 68 = .ok (.getfield 45, 3) := by decide +kernel
theorem dX7_worksOut_71 : decode cX7_worksOut 71 = .ok (.iload 5, 2) := by decide +kernel
theorem dX7_worksOut_73 : decode cX7_worksOut 73 = .ok (.sipush 10000, 3) := by decide +kernel
theorem dX7_worksOut_76 : decode cX7_worksOut 76 = .ok (.isub, 1) := by decide +kernel
theorem dX7_worksOut_77 : decode cX7_worksOut 77 = .ok (.iaload, 1) := by decide +kernel
theorem dX7_worksOut_78 : decode cX7_worksOut 78 = .ok (.iastore, 1) := by decide +kernel
theorem dX7_worksOut_79 : decode cX7_worksOut 79 = .ok (.iinc 2 1, 3) := by decide +kernel
theorem dX7_worksOut_82 : decode cX7_worksOut 82 = .ok (.goto 67, 3) := by decide +kernel
theorem dX7_worksOut_85 : decode cX7_worksOut 85 = .ok (.iload 5, 2) := by decide +kernel
theorem dX7_worksOut_87 : decode cX7_worksOut 87 = .ok (.bipush (-10), 2) := by decide +kernel
theorem dX7_worksOut_89 : decode cX7_worksOut 89 = .ok (.if_icmp .ne 30, 3) := by decide +kernel
theorem dX7_worksOut_92 : decode cX7_worksOut 92 = .ok (.aload_n 0, 1) := by decide +kernel
theorem dX7_worksOut_93 : decode cX7_worksOut 93 = .ok (.getfield 42, 3) := by decide +kernel
theorem dX7_worksOut_96 : decode cX7_worksOut 96 = .ok (.iload_n 2, 1) := by decide +kernel
theorem dX7_worksOut_97 : decode cX7_worksOut 97 = .ok (.iconst 1, 1) := by decide +kernel
theorem dX7_worksOut_98 : decode cX7_worksOut 98 = .ok (.isub, 1) := by decide +kernel
theorem dX7_worksOut_99 : decode cX7_worksOut 99 = .ok (.aload_n 0, 1) := by decide +kernel
theorem dX7_worksOut_100 : decode cX7_worksOut 100 = .ok (.getfield 42, 3) := by decide +kernel
theorem dX7_worksOut_103 : decode cX7_worksOut 103 = .ok (.iload_n 2, 1) := by decide +kernel
theorem dX7_worksOut_104 : decode cX7_worksOut 104 = .ok (.iconst 1, 1) := by decide +kernel
theorem dX7_worksOut_105 : decode cX7_worksOut 105 = .ok (.isub, 1) := by decide +kernel
theorem dX7_worksOut_106 : decode cX7_worksOut 106 = .ok (.iaload, 1) := by decide +kernel
theorem dX7_worksOut_107 : decode cX7_worksOut 107 = .ok (.ifCond .ne 7, 3) := by decide +kernel
theorem dX7_worksOut_110 : decode cX7_worksOut 110 = .ok (.iconst 1, 1) := by decide +kernel
theorem dX7_worksOut_111 : decode cX7_worksOut 111 = .ok (.goto 4, 3) := by decide +kernel
theorem dX7_worksOut_114 : decode cX7_worksOut 114 = .ok (.iconst 0, 1) := by decide +kernel
theorem dX7_worksOut_115 : decode cX7_worksOut 115 = .ok (.iastore, 1) := by decide +kernel
theorem dX7_worksOut_116 : decode cX7_worksOut 116 = .ok (.goto 33, 3) := by decide +kernel
theorem dX7_worksOut_119 : decode cX7_worksOut 119 = .ok (.iinc 2 (-1), 3) := by decide +kernel
theorem dX7_worksOut_122 : decode cX7_worksOut 122 = .ok (.aload_n 0, 1) := by decide +kernel
theorem dX7_worksOut_123 : decode cX7_worksOut 123 = .ok (.getfield 42, 3) := by decide +kernel
theorem dX7_worksOut_126 : decode cX7_worksOut 126 = .ok (.iload_n 2, 1) := by decide +kernel
theorem dX7_worksOut_127 : decode cX7_worksOut 127 = .ok (.iconst 1, 1) := by decide +kernel
theorem dX7_worksOut_128 : decode cX7_worksOut 128 = .ok (.isub, 1) := by decide +kernel
theorem dX7_worksOut_129 : decode cX7_worksOut 129 = .ok (.iload 5, 2) := by decide +kernel
theorem dX7_worksOut_131 : decode cX7_worksOut 131 = .ok (.aload_n 0, 1) := by decide +kernel
theorem dX7_worksOut_132 : decode cX7_worksOut 132 = .ok (.getfield 42, 3) := by decide +kernel
theorem dX7_worksOut_135 : decode cX7_worksOut 135 = .ok (.iload_n 2, 1) := by decide +kernel
theorem dX7_worksOut_136 : decode cX7_worksOut 136 = .ok (.iconst 1, 1) := by decide +kernel
theorem dX7_worksOut_137 : decode cX7_worksOut 137 = .ok (.isub, 1) := by decide +kernel
theorem dX7_worksOut_138 : decode cX7_worksOut 138 = .ok (.iaload, 1) := by decide +kernel
theorem dX7_worksOut_139 : decode cX7_worksOut 139 = .ok (.aload_n 0, 1) := by decide +kernel
theorem dX7_worksOut_140 : decode cX7_worksOut 140 = .ok (.getfield 42, 3) := by decide +kernel
theorem dX7_worksOut_143 : decode cX7_worksOut 143 = .ok (.iload_n 2, 1) := by decide +kernel
theorem dX7_worksOut_144 : decode cX7_worksOut 144 = .ok (.iaload, 1) := by decide +kernel
theorem dX7_worksOut_145 : decode cX7_worksOut 145 = .ok (.invokestatic 268, 3) := by decide +kernel
theorem dX7_worksOut_148 : decode cX7_worksOut 148 = .ok (.iastore, 1) := by decide +kernel
theorem dX7_worksOut_149 : decode cX7_worksOut 149 = .ok (.iinc 4 1, 3) := by decide +kernel
theorem dX7_worksOut_152 : decode cX7_worksOut 152 = .ok (.goto (-131), 3) := by decide +kernel
theorem dX7_worksOut_155 : decode cX7_worksOut 155 = .ok (.aload_n 0, 1) := by decide +kernel
theorem dX7_worksOut_156 : decode cX7_worksOut 156 = .ok (.getfield 42, 3) := by decide +kernel
theorem dX7_worksOut_159 : decode cX7_worksOut 159 = .ok (.iconst 0, 1) := by decide +kernel
theorem dX7_worksOut_160 : decode cX7_worksOut 160 = .ok (.iaload, 1) := by decide +kernel
theorem dX7_worksOut_161 : decode cX7_worksOut 161 = .ok (.ireturn, 1) := by decide +kernel
theorem dX7_isSheet_0 : decode cX7_isSheet 0 = .ok (.iload_n 0, 1) := by decide +kernel
theorem dX7_isSheet_1 : decode cX7_isSheet 1 = .ok (.iconst 0, 1) := by decide +kernel
theorem dX7_isSheet_2 : decode cX7_isSheet 2 = .ok (.iconst 3, 1) := by decide +kernel
theorem dX7_isSheet_3 : decode cX7_isSheet 3 = .ok (.invokestatic 75, 3) := by decide +kernel
theorem dX7_isSheet_6 : decode cX7_isSheet 6 = .ok (.ireturn, 1) := by decide +kernel
theorem dX7_isSlot_0 : decode cX7_isSlot 0 = .ok (.iload_n 0, 1) := by decide +kernel
theorem dX7_isSlot_1 : decode cX7_isSlot 1 = .ok (.iconst 0, 1) := by decide +kernel
theorem dX7_isSlot_2 : decode cX7_isSlot 2 = .ok (.iconst 4, 1) := by decide +kernel
theorem dX7_isSlot_3 : decode cX7_isSlot 3 = .ok (.invokestatic 75, 3) := by decide +kernel
theorem dX7_isSlot_6 : decode cX7_isSlot 6 = .ok (.ireturn, 1) := by decide +kernel
theorem dX7_sheet_0 : decode cX7_sheet 0 = .ok (.iload_n 1, 1) := by decide +kernel
theorem dX7_sheet_1 : decode cX7_sheet 1 = .ok (.invokestatic 199, 3) := by decide +kernel
theorem dX7_sheet_4 : decode cX7_sheet 4 = .ok (.ifCond .eq 22, 3) := by decide +kernel
theorem dX7_sheet_7 : decode cX7_sheet 7 = .ok (.iload_n 2, 1) := by decide +kernel
theorem dX7_sheet_8 : decode cX7_sheet 8 = .ok (.iconst (-1), 1) := by decide +kernel
theorem dX7_sheet_9 : decode cX7_sheet 9 = .ok (.iconst 1, 1) := by decide +kernel
theorem dX7_sheet_10 : decode cX7_sheet 10 = .ok (.invokestatic 75, 3) := by decide +kernel
theorem dX7_sheet_13 : decode cX7_sheet 13 = .ok (.ifCond .eq 13, 3) := by decide +kernel
theorem dX7_sheet_16 : decode cX7_sheet 16 = .ok (.iload_n 2, 1) := by decide +kernel
theorem dX7_sheet_17 : decode cX7_sheet 17 = .ok (.ifCond .lt 12, 3) := by decide +kernel
theorem dX7_sheet_20 : decode cX7_sheet 20 = .ok (.iload_n 3, 1) := by decide +kernel
theorem dX7_sheet_21 : decode cX7_sheet 21 = .ok (.bipush 24, 2) := by decide +kernel
theorem dX7_sheet_23 : decode cX7_sheet 23 = .ok (.if_icmp .le 6, 3) := by decide +kernel
theorem dX7_sheet_26 : decode cX7_sheet 26 = .ok (.ldc 119, 2) := by decide +kernel
theorem dX7_sheet_28 : decode cX7_sheet 28 = .ok (.ireturn, 1) := by decide +kernel
theorem dX7_sheet_29 : decode cX7_sheet 29 = .ok (.iload_n 2, 1) := by decide +kernel
theorem dX7_sheet_30 : decode cX7_sheet 30 = .ok (.ifCond .lt 11, 3) := by decide +kernel
theorem dX7_sheet_33 : decode cX7_sheet 33 = .ok (.iload_n 3, 1) := by decide +kernel
theorem dX7_sheet_34 : decode cX7_sheet 34 = .ok (.ifCond .ge 7, 3) := by decide +kernel
theorem dX7_sheet_37 : decode cX7_sheet 37 = .ok (.ldc_w 271, 3) := by decide +kernel
theorem dX7_sheet_40 : decode cX7_sheet 40 = .ok (.ireturn, 1) := by decide +kernel
theorem dX7_sheet_41 : decode cX7_sheet 41 = .ok (.aload_n 0, 1) := by decide +kernel
theorem dX7_sheet_42 : decode cX7_sheet 42 = .ok (.getfield 48, 3) := by decide +kernel
theorem dX7_sheet_45 : decode cX7_sheet 45 = .ok (.iload_n 1, 1) := by decide +kernel
theorem dX7_sheet_46 : decode cX7_sheet 46 = .ok (.iload_n 2, 1) := by decide +kernel
theorem dX7_sheet_47 : decode cX7_sheet 47 = .ok (.iastore, 1) := by decide +kernel
theorem dX7_sheet_48 : decode cX7_sheet 48 = .ok (.aload_n 0, 1) := by decide +kernel
theorem dX7_sheet_49 : decode cX7_sheet 49 = .ok (.getfield 51, 3) := by decide +kernel
theorem dX7_sheet_52 : decode cX7_sheet 52 = .ok (.iload_n 1, 1) := by decide +kernel
theorem dX7_sheet_53 : decode cX7_sheet 53 = .ok (.iload_n 2, 1) := by decide +kernel
theorem dX7_sheet_54 : decode cX7_sheet 54 = .ok (.ifCond .ge 7, 3) := by decide +kernel
theorem dX7_sheet_57 : decode cX7_sheet 57 = .ok (.iconst 0, 1) := by decide +kernel
theorem dX7_sheet_58 : decode cX7_sheet 58 = .ok (.goto 4, 3) := by decide +kernel
theorem dX7_sheet_61 : decode cX7_sheet 61 = .ok (.iload_n 3, 1) := by decide +kernel
theorem dX7_sheet_62 : decode cX7_sheet 62 = .ok (.iastore, 1) := by decide +kernel
theorem dX7_sheet_63 : decode cX7_sheet 63 = .ok (.iconst 0, 1) := by decide +kernel
theorem dX7_sheet_64 : decode cX7_sheet 64 = .ok (.istore 4, 2) := by decide +kernel
theorem dX7_sheet_66 : decode cX7_sheet 66 = .ok (.iload 4, 2) := by decide +kernel
theorem dX7_sheet_68 : decode cX7_sheet 68 = .ok (.bipush 24, 2) := by decide +kernel
theorem dX7_sheet_70 : decode cX7_sheet 70 = .ok (.if_icmp .ge 22, 3) := by decide +kernel
theorem dX7_sheet_73 : decode cX7_sheet 73 = .ok (.aload_n 0, 1) := by decide +kernel
theorem dX7_sheet_74 : decode cX7_sheet 74 = .ok (.getfield 54, 3) := by decide +kernel
theorem dX7_sheet_77 : decode cX7_sheet 77 = .ok (.bipush 24, 2) := by decide +kernel
theorem dX7_sheet_79 : decode cX7_sheet 79 = .ok (.iload_n 1, 1) := by decide +kernel
theorem dX7_sheet_80 : decode cX7_sheet 80 = .ok (.imul, 1) := by decide +kernel
theorem dX7_sheet_81 : decode cX7_sheet 81 = .ok (.iload 4, 2) := by decide +kernel
theorem dX7_sheet_83 : decode cX7_sheet 83 = .ok (.iadd, 1) := by decide +kernel
theorem dX7_sheet_84 : decode cX7_sheet 84 = .ok (.iconst 0, 1) := by decide +kernel
theorem dX7_sheet_85 : decode cX7_sheet 85 = .ok (.iastore, 1) := by decide +kernel
theorem dX7_sheet_86 : decode cX7_sheet 86 = .ok (.iinc 4 1, 3) := by decide +kernel
theorem dX7_sheet_89 : decode cX7_sheet 89 = .ok (.goto (-23), 3) := by decide +kernel
theorem dX7_sheet_92 : decode cX7_sheet 92 = .ok (.aload_n 0, 1) := by decide +kernel
theorem dX7_sheet_93 : decode cX7_sheet 93 = .ok (.getfield 51, 3) := by decide +kernel
theorem dX7_sheet_96 : decode cX7_sheet 96 = .ok (.iload_n 1, 1) := by decide +kernel
theorem dX7_sheet_97 : decode cX7_sheet 97 = .ok (.iaload, 1) := by decide +kernel
theorem dX7_sheet_98 : decode cX7_sheet 98 = .ok (.ireturn, 1) := by decide +kernel
theorem dX7_mark_0 : decode cX7_mark 0 = .ok (.iload_n 1, 1) := by decide +kernel
theorem dX7_mark_1 : decode cX7_mark 1 = .ok (.invokestatic 199, 3) := by decide +kernel
theorem dX7_mark_4 : decode cX7_mark 4 = .ok (.ifCond .ne 6, 3) := by decide +kernel
theorem dX7_mark_7 : decode cX7_mark 7 = .ok (.ldc 119, 2) := by decide +kernel
theorem dX7_mark_9 : decode cX7_mark 9 = .ok (.ireturn, 1) := by decide +kernel
theorem dX7_mark_10 : decode cX7_mark 10 = .ok (.aload_n 0, 1) := by decide +kernel
theorem dX7_mark_11 : decode cX7_mark 11 = .ok (.getfield 48, 3) := by decide +kernel
theorem dX7_mark_14 : decode cX7_mark 14 = .ok (.iload_n 1, 1) := by decide +kernel
theorem dX7_mark_15 : decode cX7_mark 15 = .ok (.iaload, 1) := by decide +kernel
theorem dX7_mark_16 : decode cX7_mark 16 = .ok (.ifCond .ge 6, 3) := by decide +kernel
theorem dX7_mark_19 : decode cX7_mark 19 = .ok (.ldc 202, 2) := by decide +kernel
theorem dX7_mark_21 : decode cX7_mark 21 = .ok (.ireturn, 1) := by decide +kernel
theorem dX7_mark_22 : decode cX7_mark 22 = .ok (.iload_n 2, 1) := by decide +kernel
theorem dX7_mark_23 : decode cX7_mark 23 = .ok (.iconst 0, 1) := by decide +kernel
theorem dX7_mark_24 : decode cX7_mark 24 = .ok (.aload_n 0, 1) := by decide +kernel
theorem dX7_mark_25 : decode cX7_mark 25 = .ok (.getfield 51, 3) := by decide +kernel
theorem dX7_mark_28 : decode cX7_mark 28 = .ok (.iload_n 1, 1) := by decide +kernel
theorem dX7_mark_29 : decode cX7_mark 29 = .ok (.iaload, 1) := by decide +kernel
theorem dX7_mark_30 : decode cX7_mark 30 = .ok (.iconst 1, 1) := by decide +kernel
theorem dX7_mark_31 : decode cX7_mark 31 = .ok (.isub, 1) := by decide +kernel
theorem dX7_mark_32 : decode cX7_mark 32 = .ok (.invokestatic 75, 3) := by decide +kernel
theorem dX7_mark_35 : decode cX7_mark 35 = .ok (.ifCond .ne 7, 3) := by decide +kernel
theorem dX7_mark_38 : decode cX7_mark 38 = .ok (.ldc_w 272, 3) := by decide +kernel
theorem dX7_mark_41 : decode cX7_mark 41 = .ok (.ireturn, 1) := by decide +kernel
theorem dX7_mark_42 : decode cX7_mark 42 = .ok (.aload_n 0, 1) := by decide +kernel
theorem dX7_mark_43 : decode cX7_mark 43 = .ok (.getfield 48, 3) := by decide +kernel
theorem dX7_mark_46 : decode cX7_mark 46 = .ok (.iload_n 1, 1) := by decide +kernel
theorem dX7_mark_47 : decode cX7_mark 47 = .ok (.iaload, 1) := by decide +kernel
theorem dX7_mark_48 : decode cX7_mark 48 = .ok (.ifCond .ne 12, 3) := by decide +kernel
theorem dX7_mark_51 : decode cX7_mark 51 = .ok (.iload_n 3, 1) := by decide +kernel
theorem dX7_mark_52 : decode cX7_mark 52 = .ok (.ldc 191, 2) := by decide +kernel
theorem dX7_mark_54 : decode cX7_mark 54 = .ok (.if_icmp .ne 6, 3) := by decide +kernel
theorem dX7_mark_57 : decode cX7_mark 57 = .ok (.ldc 141, 2) := by decide +kernel
theorem dX7_mark_59 : decode cX7_mark 59 = .ok (.ireturn, 1) := by decide +kernel
theorem dX7_mark_60 : decode cX7_mark 60 = .ok (.aload_n 0, 1) := by decide +kernel
theorem dX7_mark_61 : decode cX7_mark 61 = .ok (.getfield 48, 3) := by decide +kernel
theorem dX7_mark_64 : decode cX7_mark 64 = .ok (.iload_n 1, 1) := by decide +kernel
theorem dX7_mark_65 : decode cX7_mark 65 = .ok (.iaload, 1) := by decide +kernel
theorem dX7_mark_66 : decode cX7_mark 66 = .ok (.iconst 1, 1) := by decide +kernel
theorem dX7_mark_67 : decode cX7_mark 67 = .ok (.if_icmp .ne 25, 3) := by decide +kernel
theorem dX7_mark_70 : decode cX7_mark 70 = .ok (.iload_n 3, 1) := by decide +kernel
theorem dX7_mark_71 : decode cX7_mark 71 = .ok (.ldc 191, 2) := by decide +kernel
theorem dX7_mark_73 : decode cX7_mark 73 = .ok (.if_icmp .eq 19, 3) := by decide +kernel
theorem dX7_mark_76 : decode cX7_mark 76 = .ok (.iload_n 3, 1) := by decide +kernel
theorem dX7_mark_77 : decode cX7_mark 77 = .ok (.ldc_w 273, 3) := by decide +kernel
theorem dX7_mark_80 : decode cX7_mark 80 = .ok (.ldc_w 274, 3) := by decide +kernel
theorem dX7_mark_83 : decode cX7_mark 83 = .ok (.invokestatic 75, 3) := by decide +kernel
theorem dX7_mark_86 : decode cX7_mark 86 = .ok (.ifCond .ne 6, 3) := by decide +kernel
theorem dX7_mark_89 : decode cX7_mark 89 = .ok (.ldc 119, 2) := by decide +kernel
theorem dX7_mark_91 : decode cX7_mark 91 = .ok (.ireturn, 1) := by decide +kernel
theorem dX7_mark_92 : decode cX7_mark 92 = .ok (.aload_n 0, 1) := by decide +kernel
theorem dX7_mark_93 : decode cX7_mark 93 = .ok (.getfield 54, 3) := by decide +kernel
theorem dX7_mark_96 : decode cX7_mark 96 = .ok (.bipush 24, 2) := by decide +kernel
theorem dX7_mark_98 : decode cX7_mark 98 = .ok (.iload_n 1, 1) := by decide +kernel
theorem dX7_mark_99 : decode cX7_mark 99 = .ok (.imul, 1) := by decide +kernel
theorem dX7_mark_100 : decode cX7_mark 100 = .ok (.iload_n 2, 1) := by decide +kernel
theorem dX7_mark_101 : decode cX7_mark 101 = .ok (.iadd, 1) := by decide +kernel
theorem dX7_mark_102 : decode cX7_mark 102 = .ok (.aload_n 0, 1) := by decide +kernel
theorem dX7_mark_103 : decode cX7_mark 103 = .ok (.getfield 48, 3) := by decide +kernel
theorem dX7_mark_106 : decode cX7_mark 106 = .ok (.iload_n 1, 1) := by decide +kernel
theorem dX7_mark_107 : decode cX7_mark 107 = .ok (.iaload, 1) := by decide +kernel
theorem dX7_mark_108 : decode cX7_mark 108 = .ok (.ifCond .ne 8, 3) := by decide +kernel
theorem dX7_mark_111 : decode cX7_mark 111 = .ok (.iload_n 3, 1) := by decide +kernel
theorem dX7_mark_112 : decode cX7_mark 112 = .ok (.i2s, 1) := by decide +kernel
theorem dX7_mark_113 : decode cX7_mark 113 = .ok (.goto 4, 3) := by decide +kernel
theorem dX7_mark_116 : decode cX7_mark 116 = .ok (.iload_n 3, 1) := by decide +kernel
theorem dX7_mark_117 : decode cX7_mark 117 = .ok (.iastore, 1) := by decide +kernel
theorem dX7_mark_118 : decode cX7_mark 118 = .ok (.iconst 1, 1) := by decide +kernel
theorem dX7_mark_119 : decode cX7_mark 119 = .ok (.ireturn, 1) := by decide +kernel
theorem dX7_pour_0 : decode cX7_pour 0 = .ok (.iload_n 1, 1) := by decide +kernel
theorem dX7_pour_1 : decode cX7_pour 1 = .ok (.invokestatic 199, 3) := by decide +kernel
theorem dX7_pour_4 : decode cX7_pour 4 = .ok (.ifCond .ne 6, 3) := by decide +kernel
theorem dX7_pour_7 : decode cX7_pour 7 = .ok (.ldc 119, 2) := by decide +kernel
theorem dX7_pour_9 : decode cX7_pour 9 = .ok (.ireturn, 1) := by decide +kernel
theorem dX7_pour_10 : decode cX7_pour 10 = .ok (.aload_n 0, 1) := by decide +kernel
theorem dX7_pour_11 : decode cX7_pour 11 = .ok (.getfield 48, 3) := by decide +kernel
theorem dX7_pour_14 : decode cX7_pour 14 = .ok (.iload_n 1, 1) := by decide +kernel
theorem dX7_pour_15 : decode cX7_pour 15 = .ok (.iaload, 1) := by decide +kernel
theorem dX7_pour_16 : decode cX7_pour 16 = .ok (.ifCond .ge 6, 3) := by decide +kernel
theorem dX7_pour_19 : decode cX7_pour 19 = .ok (.ldc 202, 2) := by decide +kernel
theorem dX7_pour_21 : decode cX7_pour 21 = .ok (.ireturn, 1) := by decide +kernel
theorem dX7_pour_22 : decode cX7_pour 22 = .ok (.iconst 0, 1) := by decide +kernel
theorem dX7_pour_23 : decode cX7_pour 23 = .ok (.istore_n 2, 1) := by decide +kernel
theorem dX7_pour_24 : decode cX7_pour 24 = .ok (.iconst 0, 1) := by decide +kernel
theorem dX7_pour_25 : decode cX7_pour 25 = .ok (.istore_n 3, 1) := by decide +kernel
theorem dX7_pour_26 : decode cX7_pour 26 = .ok (.iload_n 3, 1) := by decide +kernel
theorem dX7_pour_27 : decode cX7_pour 27 = .ok (.aload_n 0, 1) := by decide +kernel
theorem dX7_pour_28 : decode cX7_pour 28 = .ok (.getfield 51, 3) := by decide +kernel
theorem dX7_pour_31 : decode cX7_pour 31 = .ok (.iload_n 1, 1) := by decide +kernel
theorem dX7_pour_32 : decode cX7_pour 32 = .ok (.iaload, 1) := by decide +kernel
theorem dX7_pour_33 : decode cX7_pour 33 = .ok (.if_icmp .ge 90, 3) := by decide +kernel
theorem dX7_pour_36 : decode cX7_pour 36 = .ok (.iload_n 3, 1) := by decide +kernel
theorem dX7_pour_37 : decode cX7_pour 37 = .ok (.bipush 6, 2) := by decide +kernel
theorem dX7_pour_39 : decode cX7_pour 39 = .ok (.if_icmp .ge 84, 3) := by decide +kernel
theorem dX7_pour_42 : decode cX7_pour 42 = .ok (.aload_n 0, 1) := by decide +kernel
theorem dX7_pour_43 : decode cX7_pour 43 = .ok (.getfield 54, 3) := by decide +kernel
theorem dX7_pour_46 : decode cX7_pour 46 = .ok (.bipush 24, 2) := by decide +kernel
theorem dX7_pour_48 : decode cX7_pour 48 = .ok (.iload_n 1, 1) := by decide +kernel
theorem dX7_pour_49 : decode cX7_pour 49 = .ok (.imul, 1) := by decide +kernel
theorem dX7_pour_50 : decode cX7_pour 50 = .ok (.iload_n 3, 1) := by decide +kernel
theorem dX7_pour_51 : decode cX7_pour 51 = .ok (.iadd, 1) := by decide +kernel
theorem dX7_pour_52 : decode cX7_pour 52 = .ok (.iaload, 1) := by decide +kernel
theorem dX7_pour_53 : decode cX7_pour 53 = .ok (.istore 4, 2) := by decide +kernel
theorem dX7_pour_55 : decode cX7_pour 55 = .ok (.iload 4, 2) := by decide +kernel
theorem dX7_pour_57 : decode cX7_pour 57 = .ok (.ldc 191, 2) := by decide +kernel
theorem dX7_pour_59 : decode cX7_pour 59 = .ok (.if_icmp .ne 15, 3) := by decide +kernel
theorem dX7_pour_62 : decode cX7_pour 62 = .ok (.aload_n 0, 1) := by decide +kernel
theorem dX7_pour_63 : decode cX7_pour 63 = .ok (.getfield 9, 3) := by decide +kernel
theorem dX7_pour_66 : decode cX7_pour 66 = .ok (.bipush 7, 2) := by decide +kernel
theorem dX7_pour_68 : decode cX7_pour 68 = .ok (.iload_n 3, 1) := by decide +kernel
theorem dX7_pour_69 : decode cX7_pour 69 = .ok (.iadd, 1) := by decide +kernel
theorem dX7_pour_70 : decode cX7_pour 70 = .ok (.iaload, 1) := by decide +kernel
theorem dX7_pour_71 : decode cX7_pour 71 = .ok (.goto 11, 3) := by decide +kernel
theorem dX7_pour_74 : decode cX7_pour 74 = .ok (.iload 4, 2) := by decide +kernel
theorem dX7_pour_76 : decode cX7_pour 76 = .ok (.iconst 0, 1) := by decide +kernel
theorem dX7_pour_77 : decode cX7_pour 77 = .ok (.bipush 9, 2) := by decide +kernel
theorem dX7_pour_79 : decode cX7_pour 79 = .ok (.invokestatic 108, 3) := by decide +kernel
theorem dX7_pour_82 : decode cX7_pour 82 = .ok (.istore 5, 2) := by decide +kernel
theorem dX7_pour_84 : decode cX7_pour 84 = .ok (.iload_n 2, 1) := by decide +kernel
theorem dX7_pour_85 : decode cX7_pour 85 = .ok (.iload 5, 2) := by decide +kernel
theorem dX7_pour_87 : decode cX7_pour 87 = .ok (.aload_n 0, 1) := by decide +kernel
theorem dX7_pour_88 : decode cX7_pour 88 = .ok (.getfield 9, 3) := by decide +kernel
theorem dX7_pour_91 : decode cX7_pour 91 = .ok (.bipush 7, 2) := by decide +kernel
theorem dX7_pour_93 : decode cX7_pour 93 = .ok (.iload_n 3, 1) := by decide +kernel
theorem dX7_pour_94 : decode cX7_pour 94 = .ok (.iadd, 1) := by decide +kernel
theorem dX7_pour_95 : decode cX7_pour 95 = .ok (.iaload, 1) := by decide +kernel
theorem dX7_pour_96 : decode cX7_pour 96 = .ok (.if_icmp .ne 7, 3) := by decide +kernel
theorem dX7_pour_99 : decode cX7_pour 99 = .ok (.iconst 0, 1) := by decide +kernel
theorem dX7_pour_100 : decode cX7_pour 100 = .ok (.goto 4, 3) := by decide +kernel
theorem dX7_pour_103 : decode cX7_pour 103 = .ok (.iconst 1, 1) := by decide +kernel
theorem dX7_pour_104 : decode cX7_pour 104 = .ok (.iadd, 1) := by decide +kernel
theorem dX7_pour_105 : decode cX7_pour 105 = .ok (.istore_n 2, 1) := by decide +kernel
theorem dX7_pour_106 : decode cX7_pour 106 = .ok (.aload_n 0, 1) := by decide +kernel
theorem dX7_pour_107 : decode cX7_pour 107 = .ok (.getfield 9, 3) := by decide +kernel
theorem dX7_pour_110 : decode cX7_pour 110 = .ok (.bipush 7, 2) := by decide +kernel
theorem dX7_pour_112 : decode cX7_pour 112 = .ok (.iload_n 3, 1) := by decide +kernel
theorem dX7_pour_113 : decode cX7_pour 113 = .ok (.iadd, 1) := by decide +kernel
theorem dX7_pour_114 : decode cX7_pour 114 = .ok (.iload 5, 2) := by decide +kernel
theorem dX7_pour_116 : decode cX7_pour 116 = .ok (.iastore, 1) := by decide +kernel
theorem dX7_pour_117 : decode cX7_pour 117 = .ok (.iinc 3 1, 3) := by decide +kernel
theorem dX7_pour_120 : decode cX7_pour 120 = .ok (.goto (-94), 3) := by decide +kernel
theorem dX7_pour_123 : decode cX7_pour 123 = .ok (.iload_n 2, 1) := by decide +kernel
theorem dX7_pour_124 : decode cX7_pour 124 = .ok (.ireturn, 1) := by decide +kernel
theorem dX7_reads_0 : decode cX7_reads 0 = .ok (.iload_n 1, 1) := by decide +kernel
theorem dX7_reads_1 : decode cX7_reads 1 = .ok (.invokestatic 199, 3) := by decide +kernel
theorem dX7_reads_4 : decode cX7_reads 4 = .ok (.ifCond .ne 6, 3) := by decide +kernel
theorem dX7_reads_7 : decode cX7_reads 7 = .ok (.ldc 119, 2) := by decide +kernel
theorem dX7_reads_9 : decode cX7_reads 9 = .ok (.ireturn, 1) := by decide +kernel
theorem dX7_reads_10 : decode cX7_reads 10 = .ok (.aload_n 0, 1) := by decide +kernel
theorem dX7_reads_11 : decode cX7_reads 11 = .ok (.getfield 48, 3) := by decide +kernel
theorem dX7_reads_14 : decode cX7_reads 14 = .ok (.iload_n 1, 1) := by decide +kernel
theorem dX7_reads_15 : decode cX7_reads 15 = .ok (.iaload, 1) := by decide +kernel
theorem dX7_reads_16 : decode cX7_reads 16 = .ok (.ifCond .ge 6, 3) := by decide +kernel
theorem dX7_reads_19 : decode cX7_reads 19 = .ok (.ldc 202, 2) := by decide +kernel
theorem dX7_reads_21 : decode cX7_reads 21 = .ok (.ireturn, 1) := by decide +kernel
theorem dX7_reads_22 : decode cX7_reads 22 = .ok (.iconst 0, 1) := by decide +kernel
theorem dX7_reads_23 : decode cX7_reads 23 = .ok (.istore_n 2, 1) := by decide +kernel
theorem dX7_reads_24 : decode cX7_reads 24 = .ok (.iload_n 2, 1) := by decide +kernel
theorem dX7_reads_25 : decode cX7_reads 25 = .ok (.aload_n 0, 1) := by decide +kernel
theorem dX7_reads_26 : decode cX7_reads 26 = .ok (.getfield 51, 3) := by decide +kernel
theorem dX7_reads_29 : decode cX7_reads 29 = .ok (.iload_n 1, 1) := by decide +kernel
theorem dX7_reads_30 : decode cX7_reads 30 = .ok (.iaload, 1) := by decide +kernel
theorem dX7_reads_31 : decode cX7_reads 31 = .ok (.if_icmp .ge 49, 3) := by decide +kernel
theorem dX7_reads_34 : decode cX7_reads 34 = .ok (.aload_n 0, 1) := by decide +kernel
theorem dX7_reads_35 : decode cX7_reads 35 = .ok (.getfield 54, 3) := by decide +kernel
theorem dX7_reads_38 : decode cX7_reads 38 = .ok (.bipush 24, 2) := by decide +kernel
theorem dX7_reads_40 : decode cX7_reads 40 = .ok (.iload_n 1, 1) := by decide +kernel
theorem dX7_reads_41 : decode cX7_reads 41 = .ok (.imul, 1) := by decide +kernel
theorem dX7_reads_42 : decode cX7_reads 42 = .ok (.iload_n 2, 1) := by decide +kernel
theorem dX7_reads_43 : decode cX7_reads 43 = .ok (.iadd, 1) := by decide +kernel
theorem dX7_reads_44 : decode cX7_reads 44 = .ok (.iaload, 1) := by decide +kernel
theorem dX7_reads_45 : decode cX7_reads 45 = .ok (.istore_n 3, 1) := by decide +kernel
theorem dX7_reads_46 : decode cX7_reads 46 = .ok (.iload_n 3, 1) := by decide +kernel
theorem dX7_reads_47 : decode cX7_reads 47 = .ok (.ldc 191, 2) := by decide +kernel
theorem dX7_reads_49 : decode cX7_reads 49 = .ok (.if_icmp .eq 25, 3) := by decide +kernel
theorem dX7_reads_52 : decode cX7_reads 52 = .ok (.iload_n 2, 1) := by decide +kernel
theorem dX7_reads_53 : decode cX7_reads 53 = .ok (.invokestatic 145, 3) := by decide +kernel
theorem dX7_reads_56 : decode cX7_reads 56 = .ok (.ifCond .eq 16, 3) := by decide +kernel
theorem dX7_reads_59 : decode cX7_reads 59 = .ok (.iload_n 3, 1) := by decide +kernel
theorem dX7_reads_60 : decode cX7_reads 60 = .ok (.aload_n 0, 1) := by decide +kernel
theorem dX7_reads_61 : decode cX7_reads 61 = .ok (.getfield 9, 3) := by decide +kernel
theorem dX7_reads_64 : decode cX7_reads 64 = .ok (.bipush 13, 2) := by decide +kernel
theorem dX7_reads_66 : decode cX7_reads 66 = .ok (.iload_n 2, 1) := by decide +kernel
theorem dX7_reads_67 : decode cX7_reads 67 = .ok (.iadd, 1) := by decide +kernel
theorem dX7_reads_68 : decode cX7_reads 68 = .ok (.iaload, 1) := by decide +kernel
theorem dX7_reads_69 : decode cX7_reads 69 = .ok (.if_icmp .eq 5, 3) := by decide +kernel
theorem dX7_reads_72 : decode cX7_reads 72 = .ok (.iload_n 2, 1) := by decide +kernel
theorem dX7_reads_73 : decode cX7_reads 73 = .ok (.ireturn, 1) := by decide +kernel
theorem dX7_reads_74 : decode cX7_reads 74 = .ok (.iinc 2 1, 3) := by decide +kernel
theorem dX7_reads_77 : decode cX7_reads 77 = .ok (.goto (-53), 3) := by decide +kernel
theorem dX7_reads_80 : decode cX7_reads 80 = .ok (.ldc 191, 2) := by decide +kernel
theorem dX7_reads_82 : decode cX7_reads 82 = .ok (.ireturn, 1) := by decide +kernel
theorem dX7_copy_0 : decode cX7_copy 0 = .ok (.iload_n 1, 1) := by decide +kernel
theorem dX7_copy_1 : decode cX7_copy 1 = .ok (.invokestatic 199, 3) := by decide +kernel
theorem dX7_copy_4 : decode cX7_copy 4 = .ok (.ifCond .eq 10, 3) := by decide +kernel
theorem dX7_copy_7 : decode cX7_copy 7 = .ok (.iload_n 3, 1) := by decide +kernel
theorem dX7_copy_8 : decode cX7_copy 8 = .ok (.invokestatic 199, 3) := by decide +kernel
theorem dX7_copy_11 : decode cX7_copy 11 = .ok (.ifCond .ne 6, 3) := by decide +kernel
theorem dX7_copy_14 : decode cX7_copy 14 = .ok (.ldc 119, 2) := by decide +kernel
theorem dX7_copy_16 : decode cX7_copy 16 = .ok (.ireturn, 1) := by decide +kernel
theorem dX7_copy_17 : decode cX7_copy 17 = .ok (.aload_n 0, 1) := by decide +kernel
theorem dX7_copy_18 : decode cX7_copy 18 = .ok (.getfield 48, 3) := by decide +kernel
theorem dX7_copy_21 : decode cX7_copy 21 = .ok (.iload_n 1, 1) := by decide +kernel
theorem dX7_copy_22 : decode cX7_copy 22 = .ok (.iaload, 1) := by decide +kernel
theorem dX7_copy_23 : decode cX7_copy 23 = .ok (.ifCond .lt 12, 3) := by decide +kernel
theorem dX7_copy_26 : decode cX7_copy 26 = .ok (.aload_n 0, 1) := by decide +kernel
theorem dX7_copy_27 : decode cX7_copy 27 = .ok (.getfield 48, 3) := by decide +kernel
theorem dX7_copy_30 : decode cX7_copy 30 = .ok (.iload_n 3, 1) := by decide +kernel
theorem dX7_copy_31 : decode cX7_copy 31 = .ok (.iaload, 1) := by decide +kernel
theorem dX7_copy_32 : decode cX7_copy 32 = .ok (.ifCond .ge 6, 3) := by decide +kernel
theorem dX7_copy_35 : decode cX7_copy 35 = .ok (.ldc 202, 2) := by decide +kernel
theorem dX7_copy_37 : decode cX7_copy 37 = .ok (.ireturn, 1) := by decide +kernel
theorem dX7_copy_38 : decode cX7_copy 38 = .ok (.aload_n 0, 1) := by decide +kernel
theorem dX7_copy_39 : decode cX7_copy 39 = .ok (.getfield 48, 3) := by decide +kernel
theorem dX7_copy_42 : decode cX7_copy 42 = .ok (.iload_n 1, 1) := by decide +kernel
theorem dX7_copy_43 : decode cX7_copy 43 = .ok (.iaload, 1) := by decide +kernel
theorem dX7_copy_44 : decode cX7_copy 44 = .ok (.aload_n 0, 1) := by decide +kernel
theorem dX7_copy_45 : decode cX7_copy 45 = .ok (.getfield 48, 3) := by decide +kernel
theorem dX7_copy_48 : decode cX7_copy 48 = .ok (.iload_n 3, 1) := by decide +kernel
theorem dX7_copy_49 : decode cX7_copy 49 = .ok (.iaload, 1) := by decide +kernel
theorem dX7_copy_50 : decode cX7_copy 50 = .ok (.if_icmp .eq 6, 3) := by decide +kernel
theorem dX7_copy_53 : decode cX7_copy 53 = .ok (.ldc 141, 2) := by decide +kernel
theorem dX7_copy_55 : decode cX7_copy 55 = .ok (.ireturn, 1) := by decide +kernel
theorem dX7_copy_56 : decode cX7_copy 56 = .ok (.iload_n 2, 1) := by decide +kernel
theorem dX7_copy_57 : decode cX7_copy 57 = .ok (.ifCond .lt 40, 3) := by decide +kernel
theorem dX7_copy_60 : decode cX7_copy 60 = .ok (.iload 4, 2) := by decide +kernel
theorem dX7_copy_62 : decode cX7_copy 62 = .ok (.ifCond .lt 35, 3) := by decide +kernel
theorem dX7_copy_65 : decode cX7_copy 65 = .ok (.iload 5, 2) := by decide +kernel
theorem dX7_copy_67 : decode cX7_copy 67 = .ok (.ifCond .lt 30, 3) := by decide +kernel
theorem dX7_copy_70 : decode cX7_copy 70 = .ok (.iload_n 2, 1) := by decide +kernel
theorem dX7_copy_71 : decode cX7_copy 71 = .ok (.aload_n 0, 1) := by decide +kernel
theorem dX7_copy_72 : decode cX7_copy 72 = .ok (.getfield 51, 3) := by decide +kernel
theorem dX7_copy_75 : decode cX7_copy 75 = .ok (.iload_n 1, 1) := by decide +kernel
theorem dX7_copy_76 : decode cX7_copy 76 = .ok (.iaload, 1) := by decide +kernel
theorem dX7_copy_77 : decode cX7_copy 77 = .ok (.iload 5, 2) := by decide +kernel
theorem dX7_copy_79 : decode cX7_copy 79 = .ok (.isub, 1) := by decide +kernel
theorem dX7_copy_80 : decode cX7_copy 80 = .ok (.if_icmp .gt 17, 3) := by decide +kernel
theorem dX7_copy_83 : decode cX7_copy 83 = .ok (.iload 4, 2) := by decide +kernel
theorem dX7_copy_85 : decode cX7_copy 85 = .ok (.aload_n 0, 1) := by decide +kernel
theorem dX7_copy_86 : decode cX7_copy 86 = .ok (.getfield 51, 3) := by decide +kernel
theorem dX7_copy_89 : decode cX7_copy 89 = .ok (.iload_n 3, 1) := by decide +kernel
theorem dX7_copy_90 : decode cX7_copy 90 = .ok (.iaload, 1) := by decide +kernel
theorem dX7_copy_91 : decode cX7_copy 91 = .ok (.iload 5, 2) := by decide +kernel
theorem dX7_copy_93 : decode cX7_copy 93 = .ok (.isub, 1) := by decide +kernel
theorem dX7_copy_94 : decode cX7_copy 94 = .ok (.if_icmp .le 7, 3) := by decide +kernel
theorem dX7_copy_97 : decode cX7_copy 97 = .ok (.ldc_w 272, 3) := by decide +kernel
theorem dX7_copy_100 : decode cX7_copy 100 = .ok (.ireturn, 1) := by decide +kernel
theorem dX7_copy_101 : decode cX7_copy 101 = .ok (.iconst 0, 1) := by decide +kernel
theorem dX7_copy_102 : decode cX7_copy 102 = .ok (.istore 6, 2) := by decide +kernel
theorem dX7_copy_104 : decode cX7_copy 104 = .ok (.iload 6, 2) := by decide +kernel
theorem dX7_copy_106 : decode cX7_copy 106 = .ok (.iload 5, 2) := by decide +kernel
theorem dX7_copy_108 : decode cX7_copy 108 = .ok (.if_icmp .ge 30, 3) := by decide +kernel
theorem dX7_copy_111 : decode cX7_copy 111 = .ok (.aload_n 0, 1) := by decide +kernel
theorem dX7_copy_112 : decode cX7_copy 112 = .ok (.getfield 69, 3) := by decide +kernel
theorem dX7_copy_115 : decode cX7_copy 115 = .ok (.iload 6, 2) := by decide +kernel
theorem dX7_copy_117 : decode cX7_copy 117 = .ok (.aload_n 0, 1) := by decide +kernel
theorem dX7_copy_118 : decode cX7_copy 118 = .ok (.getfield 54, 3) := by decide +kernel
theorem dX7_copy_121 : decode cX7_copy 121 = .ok (.bipush 24, 2) := by decide +kernel
theorem dX7_copy_123 : decode cX7_copy 123 = .ok (.iload_n 1, 1) := by decide +kernel
theorem dX7_copy_124 : decode cX7_copy 124 = .ok (.imul, 1) := by decide +kernel
theorem dX7_copy_125 : decode cX7_copy 125 = .ok (.iload_n 2, 1) := by decide +kernel
theorem dX7_copy_126 : decode cX7_copy 126 = .ok (.iadd, 1) := by decide +kernel
theorem dX7_copy_127 : decode cX7_copy 127 = .ok (.iload 6, 2) := by decide +kernel
theorem dX7_copy_129 : decode cX7_copy 129 = .ok (.iadd, 1) := by decide +kernel
theorem dX7_copy_130 : decode cX7_copy 130 = .ok (.iaload, 1) := by decide +kernel
theorem dX7_copy_131 : decode cX7_copy 131 = .ok (.iastore, 1) := by decide +kernel
theorem dX7_copy_132 : decode cX7_copy 132 = .ok (.iinc 6 1, 3) := by decide +kernel
theorem dX7_copy_135 : decode cX7_copy 135 = .ok (.goto (-31), 3) := by decide +kernel
theorem dX7_copy_138 : decode cX7_copy 138 = .ok (.iconst 0, 1) := by decide +kernel
theorem dX7_copy_139 : decode cX7_copy 139 = .ok (.istore 6, 2) := by decide +kernel
theorem dX7_copy_141 : decode cX7_copy 141 = .ok (.iload 6, 2) := by decide +kernel
theorem dX7_copy_143 : decode cX7_copy 143 = .ok (.iload 5, 2) := by decide +kernel
theorem dX7_copy_145 : decode cX7_copy 145 = .ok (.if_icmp .ge 31, 3) := by decide +kernel
theorem dX7_copy_148 : decode cX7_copy 148 = .ok (.aload_n 0, 1) := by decide +kernel
theorem dX7_copy_149 : decode cX7_copy 149 = .ok (.getfield 54, 3) := by decide +kernel
theorem dX7_copy_152 : decode cX7_copy 152 = .ok (.bipush 24, 2) := by decide +kernel
theorem dX7_copy_154 : decode cX7_copy 154 = .ok (.iload_n 3, 1) := by decide +kernel
theorem dX7_copy_155 : decode cX7_copy 155 = .ok (.imul, 1) := by decide +kernel
theorem dX7_copy_156 : decode cX7_copy 156 = .ok (.iload 4, 2) := by decide +kernel
theorem dX7_copy_158 : decode cX7_copy 158 = .ok (.iadd, 1) := by decide +kernel
theorem dX7_copy_159 : decode cX7_copy 159 = .ok (.iload 6, 2) := by decide +kernel
theorem dX7_copy_161 : decode cX7_copy 161 = .ok (.iadd, 1) := by decide +kernel
theorem dX7_copy_162 : decode cX7_copy 162 = .ok (.aload_n 0, 1) := by decide +kernel
theorem dX7_copy_163 : decode cX7_copy 163 = .ok (.getfield 69, 3) := by decide +kernel
theorem dX7_copy_166 : decode cX7_copy 166 = .ok (.iload 6, 2) := by decide +kernel
theorem dX7_copy_168 : decode cX7_copy 168 = .ok (.iaload, 1) := by decide +kernel
theorem dX7_copy_169 : decode cX7_copy 169 = .ok (.iastore, 1) := by decide +kernel
theorem dX7_copy_170 : decode cX7_copy 170 = .ok (.iinc 6 1, 3) := by decide +kernel
theorem dX7_copy_173 : decode cX7_copy 173 = .ok (.goto (-32), 3) := by decide +kernel
theorem dX7_copy_176 : decode cX7_copy 176 = .ok (.iload 5, 2) := by decide +kernel
theorem dX7_copy_178 : decode cX7_copy 178 = .ok (.ireturn, 1) := by decide +kernel
theorem dX7_lay_0 : decode cX7_lay 0 = .ok (.iload_n 1, 1) := by decide +kernel
theorem dX7_lay_1 : decode cX7_lay 1 = .ok (.invokestatic 275, 3) := by decide +kernel
theorem dX7_lay_4 : decode cX7_lay 4 = .ok (.ifCond .eq 37, 3) := by decide +kernel
theorem dX7_lay_7 : decode cX7_lay 7 = .ok (.iload_n 2, 1) := by decide +kernel
theorem dX7_lay_8 : decode cX7_lay 8 = .ok (.iconst 0, 1) := by decide +kernel
theorem dX7_lay_9 : decode cX7_lay 9 = .ok (.iconst 3, 1) := by decide +kernel
theorem dX7_lay_10 : decode cX7_lay 10 = .ok (.invokestatic 75, 3) := by decide +kernel
theorem dX7_lay_13 : decode cX7_lay 13 = .ok (.ifCond .eq 28, 3) := by decide +kernel
theorem dX7_lay_16 : decode cX7_lay 16 = .ok (.iload_n 2, 1) := by decide +kernel
theorem dX7_lay_17 : decode cX7_lay 17 = .ok (.iconst 1, 1) := by decide +kernel
theorem dX7_lay_18 : decode cX7_lay 18 = .ok (.if_icmp .ne 11, 3) := by decide +kernel
theorem dX7_lay_21 : decode cX7_lay 21 = .ok (.aload_n 0, 1) := by decide +kernel
theorem dX7_lay_22 : decode cX7_lay 22 = .ok (.iload_n 3, 1) := by decide +kernel
theorem dX7_lay_23 : decode cX7_lay 23 = .ok (.invokevirtual 128, 3) := by decide +kernel
theorem dX7_lay_26 : decode cX7_lay 26 = .ok (.ifCond .eq 15, 3) := by decide +kernel
theorem dX7_lay_29 : decode cX7_lay 29 = .ok (.iload_n 2, 1) := by decide +kernel
theorem dX7_lay_30 : decode cX7_lay 30 = .ok (.iconst 2, 1) := by decide +kernel
theorem dX7_lay_31 : decode cX7_lay 31 = .ok (.if_icmp .ne 13, 3) := by decide +kernel
theorem dX7_lay_34 : decode cX7_lay 34 = .ok (.iload_n 3, 1) := by decide +kernel
theorem dX7_lay_35 : decode cX7_lay 35 = .ok (.invokestatic 199, 3) := by decide +kernel
theorem dX7_lay_38 : decode cX7_lay 38 = .ok (.ifCond .ne 6, 3) := by decide +kernel
theorem dX7_lay_41 : decode cX7_lay 41 = .ok (.ldc 119, 2) := by decide +kernel
theorem dX7_lay_43 : decode cX7_lay 43 = .ok (.ireturn, 1) := by decide +kernel
theorem dX7_lay_44 : decode cX7_lay 44 = .ok (.iload_n 2, 1) := by decide +kernel
theorem dX7_lay_45 : decode cX7_lay 45 = .ok (.iconst 2, 1) := by decide +kernel
theorem dX7_lay_46 : decode cX7_lay 46 = .ok (.if_icmp .ne 15, 3) := by decide +kernel
theorem dX7_lay_49 : decode cX7_lay 49 = .ok (.aload_n 0, 1) := by decide +kernel
theorem dX7_lay_50 : decode cX7_lay 50 = .ok (.getfield 48, 3) := by decide +kernel
theorem dX7_lay_53 : decode cX7_lay 53 = .ok (.iload_n 3, 1) := by decide +kernel
theorem dX7_lay_54 : decode cX7_lay 54 = .ok (.iaload, 1) := by decide +kernel
theorem dX7_lay_55 : decode cX7_lay 55 = .ok (.ifCond .ge 6, 3) := by decide +kernel
theorem dX7_lay_58 : decode cX7_lay 58 = .ok (.ldc 202, 2) := by decide +kernel
theorem dX7_lay_60 : decode cX7_lay 60 = .ok (.ireturn, 1) := by decide +kernel
theorem dX7_lay_61 : decode cX7_lay 61 = .ok (.aload_n 0, 1) := by decide +kernel
theorem dX7_lay_62 : decode cX7_lay 62 = .ok (.getfield 57, 3) := by decide +kernel
theorem dX7_lay_65 : decode cX7_lay 65 = .ok (.iload_n 1, 1) := by decide +kernel
theorem dX7_lay_66 : decode cX7_lay 66 = .ok (.iaload, 1) := by decide +kernel
theorem dX7_lay_67 : decode cX7_lay 67 = .ok (.istore 4, 2) := by decide +kernel
theorem dX7_lay_69 : decode cX7_lay 69 = .ok (.aload_n 0, 1) := by decide +kernel
theorem dX7_lay_70 : decode cX7_lay 70 = .ok (.getfield 57, 3) := by decide +kernel
theorem dX7_lay_73 : decode cX7_lay 73 = .ok (.iload_n 1, 1) := by decide +kernel
theorem dX7_lay_74 : decode cX7_lay 74 = .ok (.iload_n 2, 1) := by decide +kernel
theorem dX7_lay_75 : decode cX7_lay 75 = .ok (.iastore, 1) := by decide +kernel
theorem dX7_lay_76 : decode cX7_lay 76 = .ok (.aload_n 0, 1) := by decide +kernel
theorem dX7_lay_77 : decode cX7_lay 77 = .ok (.getfield 60, 3) := by decide +kernel
theorem dX7_lay_80 : decode cX7_lay 80 = .ok (.iload_n 1, 1) := by decide +kernel
theorem dX7_lay_81 : decode cX7_lay 81 = .ok (.iload_n 2, 1) := by decide +kernel
theorem dX7_lay_82 : decode cX7_lay 82 = .ok (.iconst 1, 1) := by decide +kernel
theorem dX7_lay_83 : decode cX7_lay 83 = .ok (.if_icmp .ne 12, 3) := by decide +kernel
theorem dX7_lay_86 : decode cX7_lay 86 = .ok (.aload_n 0, 1) := by decide +kernel
theorem dX7_lay_87 : decode cX7_lay 87 = .ok (.iload_n 3, 1) := by decide +kernel
theorem dX7_lay_88 : decode cX7_lay 88 = .ok (.iconst 0, 1) := by decide +kernel
theorem dX7_lay_89 : decode cX7_lay 89 = .ok (.invokevirtual 79, 3) := by decide +kernel
theorem dX7_lay_92 : decode cX7_lay 92 = .ok (.goto 18, 3) := by decide +kernel
theorem dX7_lay_95 : decode cX7_lay 95 = .ok (.iload_n 2, 1) := by decide +kernel
theorem dX7_lay_96 : decode cX7_lay 96 = .ok (.iconst 2, 1) := by decide +kernel
theorem dX7_lay_97 : decode cX7_lay 97 = .ok (.if_icmp .ne 12, 3) := by decide +kernel
theorem dX7_lay_100 : decode cX7_lay 100 = .ok (.aload_n 0, 1) := by decide +kernel
theorem dX7_lay_101 : decode cX7_lay 101 = .ok (.getfield 51, 3) := by decide +kernel
theorem dX7_lay_104 : decode cX7_lay 104 = .ok (.iload_n 3, 1) := by decide +kernel
theorem dX7_lay_105 : decode cX7_lay 105 = .ok (.iaload, 1) := by decide +kernel
theorem dX7_lay_106 : decode cX7_lay 106 = .ok (.goto 4, 3) := by decide +kernel
theorem dX7_lay_109 : decode cX7_lay 109 = .ok (.iload_n 3, 1) := by decide +kernel
theorem dX7_lay_110 : decode cX7_lay 110 = .ok (.iastore, 1) := by decide +kernel
theorem dX7_lay_111 : decode cX7_lay 111 = .ok (.aload_n 0, 1) := by decide +kernel
theorem dX7_lay_112 : decode cX7_lay 112 = .ok (.getfield 63, 3) := by decide +kernel
theorem dX7_lay_115 : decode cX7_lay 115 = .ok (.iload_n 1, 1) := by decide +kernel
theorem dX7_lay_116 : decode cX7_lay 116 = .ok (.iload_n 2, 1) := by decide +kernel
theorem dX7_lay_117 : decode cX7_lay 117 = .ok (.iconst 1, 1) := by decide +kernel
theorem dX7_lay_118 : decode cX7_lay 118 = .ok (.if_icmp .ne 11, 3) := by decide +kernel
theorem dX7_lay_121 : decode cX7_lay 121 = .ok (.aload_n 0, 1) := by decide +kernel
theorem dX7_lay_122 : decode cX7_lay 122 = .ok (.iload_n 3, 1) := by decide +kernel
theorem dX7_lay_123 : decode cX7_lay 123 = .ok (.invokevirtual 86, 3) := by decide +kernel
theorem dX7_lay_126 : decode cX7_lay 126 = .ok (.goto 4, 3) := by decide +kernel
theorem dX7_lay_129 : decode cX7_lay 129 = .ok (.iconst 0, 1) := by decide +kernel
theorem dX7_lay_130 : decode cX7_lay 130 = .ok (.iastore, 1) := by decide +kernel
theorem dX7_lay_131 : decode cX7_lay 131 = .ok (.iconst 0, 1) := by decide +kernel
theorem dX7_lay_132 : decode cX7_lay 132 = .ok (.istore 5, 2) := by decide +kernel
theorem dX7_lay_134 : decode cX7_lay 134 = .ok (.iload 5, 2) := by decide +kernel
theorem dX7_lay_136 : decode cX7_lay 136 = .ok (.bipush 24, 2) := by decide +kernel
theorem dX7_lay_138 : decode cX7_lay 138 = .ok (.if_icmp .ge 38, 3) := by decide +kernel
theorem dX7_lay_141 : decode cX7_lay 141 = .ok (.iload_n 2, 1) := by decide +kernel
theorem dX7_lay_142 : decode cX7_lay 142 = .ok (.iconst 2, 1) := by decide +kernel
theorem dX7_lay_143 : decode cX7_lay 143 = .ok (.if_icmp .ne 33, 3) := by decide +kernel
theorem dX7_lay_146 : decode cX7_lay 146 = .ok (.aload_n 0, 1) := by decide +kernel
theorem dX7_lay_147 : decode cX7_lay 147 = .ok (.getfield 66, 3) := by decide +kernel
theorem dX7_lay_150 : decode cX7_lay 150 = .ok (.bipush 24, 2) := by decide +kernel
theorem dX7_lay_152 : decode cX7_lay 152 = .ok (.iload_n 1, 1) := by decide +kernel
theorem dX7_lay_153 : decode cX7_lay 153 = .ok (.imul, 1) := by decide +kernel
theorem dX7_lay_154 : decode cX7_lay 154 = .ok (.iload 5, 2) := by decide +kernel
theorem dX7_lay_156 : decode cX7_lay 156 = .ok (.iadd, 1) := by decide +kernel
theorem dX7_lay_157 : decode cX7_lay 157 = .ok (.aload_n 0, 1) := by decide +kernel
theorem dX7_lay_158 : decode cX7_lay 158 = .ok (.getfield 54, 3) := by decide +kernel
theorem dX7_lay_161 : decode cX7_lay 161 = .ok (.bipush 24, 2) := by decide +kernel
theorem dX7_lay_163 : decode cX7_lay 163 = .ok (.iload_n 3, 1) := by decide +kernel
theorem dX7_lay_164 : decode cX7_lay 164 = .ok (.imul, 1) := by decide +kernel
theorem dX7_lay_165 : decode cX7_lay 165 = .ok (.iload 5, 2) := by decide +kernel
theorem dX7_lay_167 : decode cX7_lay 167 = .ok (.iadd, 1) := by decide +kernel
theorem dX7_lay_168 : decode cX7_lay 168 = .ok (.iaload, 1) := by decide +kernel
theorem dX7_lay_169 : decode cX7_lay 169 = .ok (.iastore, 1) := by decide +kernel
theorem dX7_lay_170 : decode cX7_lay 170 = .ok (.iinc 5 1, 3) := by decide +kernel
theorem dX7_lay_173 : decode cX7_lay 173 = .ok (.goto (-39), 3) := by decide +kernel
theorem dX7_lay_176 : decode cX7_lay 176 = .ok (.iload 4, 2) := by decide +kernel
theorem dX7_lay_178 : decode cX7_lay 178 = .ok (.ireturn, 1) := by decide +kernel
theorem dX7_ask_0 : decode cX7_ask 0 = .ok (.iload_n 1, 1) := by decide +kernel
theorem dX7_ask_1 : decode cX7_ask 1 = .ok (.invokestatic 275, 3) := by decide +kernel
theorem dX7_ask_4 : decode cX7_ask 4 = .ok (.ifCond .eq 12, 3) := by decide +kernel
theorem dX7_ask_7 : decode cX7_ask 7 = .ok (.iload_n 2, 1) := by decide +kernel
theorem dX7_ask_8 : decode cX7_ask 8 = .ok (.iconst 0, 1) := by decide +kernel
theorem dX7_ask_9 : decode cX7_ask 9 = .ok (.iconst 5, 1) := by decide +kernel
theorem dX7_ask_10 : decode cX7_ask 10 = .ok (.invokestatic 75, 3) := by decide +kernel
theorem dX7_ask_13 : decode cX7_ask 13 = .ok (.ifCond .ne 6, 3) := by decide +kernel
theorem dX7_ask_16 : decode cX7_ask 16 = .ok (.ldc 119, 2) := by decide +kernel
theorem dX7_ask_18 : decode cX7_ask 18 = .ok (.ireturn, 1) := by decide +kernel
theorem dX7_ask_19 : decode cX7_ask 19 = .ok (.aload_n 0, 1) := by decide +kernel
theorem dX7_ask_20 : decode cX7_ask 20 = .ok (.getfield 57, 3) := by decide +kernel
theorem dX7_ask_23 : decode cX7_ask 23 = .ok (.iload_n 1, 1) := by decide +kernel
theorem dX7_ask_24 : decode cX7_ask 24 = .ok (.iaload, 1) := by decide +kernel
theorem dX7_ask_25 : decode cX7_ask 25 = .ok (.ifCond .ne 6, 3) := by decide +kernel
theorem dX7_ask_28 : decode cX7_ask 28 = .ok (.ldc 202, 2) := by decide +kernel
theorem dX7_ask_30 : decode cX7_ask 30 = .ok (.ireturn, 1) := by decide +kernel
theorem dX7_ask_31 : decode cX7_ask 31 = .ok (.aload_n 0, 1) := by decide +kernel
theorem dX7_ask_32 : decode cX7_ask 32 = .ok (.getfield 57, 3) := by decide +kernel
theorem dX7_ask_35 : decode cX7_ask 35 = .ok (.iload_n 1, 1) := by decide +kernel
theorem dX7_ask_36 : decode cX7_ask 36 = .ok (.iaload, 1) := by decide +kernel
theorem dX7_ask_37 : decode cX7_ask 37 = .ok (.iconst 1, 1) := by decide +kernel
theorem dX7_ask_38 : decode cX7_ask 38 = .ok (.if_icmp .ne 25, 3) := by decide +kernel
theorem dX7_ask_41 : decode cX7_ask 41 = .ok (.aload_n 0, 1) := by decide +kernel
theorem dX7_ask_42 : decode cX7_ask 42 = .ok (.getfield 60, 3) := by decide +kernel
theorem dX7_ask_45 : decode cX7_ask 45 = .ok (.iload_n 1, 1) := by decide +kernel
theorem dX7_ask_46 : decode cX7_ask 46 = .ok (.iaload, 1) := by decide +kernel
theorem dX7_ask_47 : decode cX7_ask 47 = .ok (.iload_n 2, 1) := by decide +kernel
theorem dX7_ask_48 : decode cX7_ask 48 = .ok (.invokestatic 138, 3) := by decide +kernel
theorem dX7_ask_51 : decode cX7_ask 51 = .ok (.ifCond .eq 12, 3) := by decide +kernel
theorem dX7_ask_54 : decode cX7_ask 54 = .ok (.aload_n 0, 1) := by decide +kernel
theorem dX7_ask_55 : decode cX7_ask 55 = .ok (.getfield 63, 3) := by decide +kernel
theorem dX7_ask_58 : decode cX7_ask 58 = .ok (.iload_n 1, 1) := by decide +kernel
theorem dX7_ask_59 : decode cX7_ask 59 = .ok (.iaload, 1) := by decide +kernel
theorem dX7_ask_60 : decode cX7_ask 60 = .ok (.goto 5, 3) := by decide +kernel
theorem dX7_ask_63 : decode cX7_ask 63 = .ok (.ldc 141, 2) := by decide +kernel
theorem dX7_ask_65 : decode cX7_ask 65 = .ok (.ireturn, 1) := by decide +kernel
theorem dX7_item_0 : decode cX7_item 0 = .ok (.iload_n 1, 1) := by decide +kernel
theorem dX7_item_1 : decode cX7_item 1 = .ok (.invokestatic 275, 3) := by decide +kernel
theorem dX7_item_4 : decode cX7_item 4 = .ok (.ifCond .ne 6, 3) := by decide +kernel
theorem dX7_item_7 : decode cX7_item 7 = .ok (.ldc 119, 2) := by decide +kernel
theorem dX7_item_9 : decode cX7_item 9 = .ok (.ireturn, 1) := by decide +kernel
theorem dX7_item_10 : decode cX7_item 10 = .ok (.aload_n 0, 1) := by decide +kernel
theorem dX7_item_11 : decode cX7_item 11 = .ok (.getfield 57, 3) := by decide +kernel
theorem dX7_item_14 : decode cX7_item 14 = .ok (.iload_n 1, 1) := by decide +kernel
theorem dX7_item_15 : decode cX7_item 15 = .ok (.iaload, 1) := by decide +kernel
theorem dX7_item_16 : decode cX7_item 16 = .ok (.ifCond .ne 6, 3) := by decide +kernel
theorem dX7_item_19 : decode cX7_item 19 = .ok (.ldc 202, 2) := by decide +kernel
theorem dX7_item_21 : decode cX7_item 21 = .ok (.ireturn, 1) := by decide +kernel
theorem dX7_item_22 : decode cX7_item 22 = .ok (.aload_n 0, 1) := by decide +kernel
theorem dX7_item_23 : decode cX7_item 23 = .ok (.getfield 57, 3) := by decide +kernel
theorem dX7_item_26 : decode cX7_item 26 = .ok (.iload_n 1, 1) := by decide +kernel
theorem dX7_item_27 : decode cX7_item 27 = .ok (.iaload, 1) := by decide +kernel
theorem dX7_item_28 : decode cX7_item 28 = .ok (.iconst 2, 1) := by decide +kernel
theorem dX7_item_29 : decode cX7_item 29 = .ok (.if_icmp .eq 6, 3) := by decide +kernel
theorem dX7_item_32 : decode cX7_item 32 = .ok (.ldc 141, 2) := by decide +kernel
theorem dX7_item_34 : decode cX7_item 34 = .ok (.ireturn, 1) := by decide +kernel
theorem dX7_item_35 : decode cX7_item 35 = .ok (.iload_n 2, 1) := by decide +kernel
theorem dX7_item_36 : decode cX7_item 36 = .ok (.iconst 0, 1) := by decide +kernel
theorem dX7_item_37 : decode cX7_item 37 = .ok (.aload_n 0, 1) := by decide +kernel
theorem dX7_item_38 : decode cX7_item 38 = .ok (.getfield 60, 3) := by decide +kernel
theorem dX7_item_41 : decode cX7_item 41 = .ok (.iload_n 1, 1) := by decide +kernel
theorem dX7_item_42 : decode cX7_item 42 = .ok (.iaload, 1) := by decide +kernel
theorem dX7_item_43 : decode cX7_item 43 = .ok (.iconst 1, 1) := by decide +kernel
theorem dX7_item_44 : decode cX7_item 44 = .ok (.isub, 1) := by decide +kernel
theorem dX7_item_45 : decode cX7_item 45 = .ok (.invokestatic 75, 3) := by decide +kernel
theorem dX7_item_48 : decode cX7_item 48 = .ok (.ifCond .ne 7, 3) := by decide +kernel
theorem dX7_item_51 : decode cX7_item 51 = .ok (.ldc_w 272, 3) := by decide +kernel
theorem dX7_item_54 : decode cX7_item 54 = .ok (.ireturn, 1) := by decide +kernel
theorem dX7_item_55 : decode cX7_item 55 = .ok (.aload_n 0, 1) := by decide +kernel
theorem dX7_item_56 : decode cX7_item 56 = .ok (.getfield 66, 3) := by decide +kernel
theorem dX7_item_59 : decode cX7_item 59 = .ok (.bipush 24, 2) := by decide +kernel
theorem dX7_item_61 : decode cX7_item 61 = .ok (.iload_n 1, 1) := by decide +kernel
theorem dX7_item_62 : decode cX7_item 62 = .ok (.imul, 1) := by decide +kernel
theorem dX7_item_63 : decode cX7_item 63 = .ok (.iload_n 2, 1) := by decide +kernel
theorem dX7_item_64 : decode cX7_item 64 = .ok (.iadd, 1) := by decide +kernel
theorem dX7_item_65 : decode cX7_item 65 = .ok (.iaload, 1) := by decide +kernel
theorem dX7_item_66 : decode cX7_item 66 = .ok (.istore_n 3, 1) := by decide +kernel
theorem dX7_item_67 : decode cX7_item 67 = .ok (.iload_n 3, 1) := by decide +kernel
theorem dX7_item_68 : decode cX7_item 68 = .ok (.ldc 191, 2) := by decide +kernel
theorem dX7_item_70 : decode cX7_item 70 = .ok (.if_icmp .ne 8, 3) := by decide +kernel
theorem dX7_item_73 : decode cX7_item 73 = .ok (.ldc 141, 2) := by decide +kernel
theorem dX7_item_75 : decode cX7_item 75 = .ok (.goto 4, 3) := by decide +kernel
theorem dX7_item_78 : decode cX7_item 78 = .ok (.iload_n 3, 1) := by decide +kernel
theorem dX7_item_79 : decode cX7_item 79 = .ok (.ireturn, 1) := by decide +kernel
theorem dX7_rest_0 : decode cX7_rest 0 = .ok (.iload_n 1, 1) := by decide +kernel
theorem dX7_rest_1 : decode cX7_rest 1 = .ok (.invokestatic 275, 3) := by decide +kernel
theorem dX7_rest_4 : decode cX7_rest 4 = .ok (.ifCond .ne 6, 3) := by decide +kernel
theorem dX7_rest_7 : decode cX7_rest 7 = .ok (.ldc 119, 2) := by decide +kernel
theorem dX7_rest_9 : decode cX7_rest 9 = .ok (.ireturn, 1) := by decide +kernel
theorem dX7_rest_10 : decode cX7_rest 10 = .ok (.aload_n 0, 1) := by decide +kernel
theorem dX7_rest_11 : decode cX7_rest 11 = .ok (.getfield 57, 3) := by decide +kernel
theorem dX7_rest_14 : decode cX7_rest 14 = .ok (.iload_n 1, 1) := by decide +kernel
theorem dX7_rest_15 : decode cX7_rest 15 = .ok (.iaload, 1) := by decide +kernel
theorem dX7_rest_16 : decode cX7_rest 16 = .ok (.ifCond .ne 6, 3) := by decide +kernel
theorem dX7_rest_19 : decode cX7_rest 19 = .ok (.ldc 202, 2) := by decide +kernel
theorem dX7_rest_21 : decode cX7_rest 21 = .ok (.ireturn, 1) := by decide +kernel
theorem dX7_rest_22 : decode cX7_rest 22 = .ok (.aload_n 0, 1) := by decide +kernel
theorem dX7_rest_23 : decode cX7_rest 23 = .ok (.getfield 57, 3) := by decide +kernel
theorem dX7_rest_26 : decode cX7_rest 26 = .ok (.iload_n 1, 1) := by decide +kernel
theorem dX7_rest_27 : decode cX7_rest 27 = .ok (.iaload, 1) := by decide +kernel
theorem dX7_rest_28 : decode cX7_rest 28 = .ok (.iconst 3, 1) := by decide +kernel
theorem dX7_rest_29 : decode cX7_rest 29 = .ok (.if_icmp .eq 6, 3) := by decide +kernel
theorem dX7_rest_32 : decode cX7_rest 32 = .ok (.ldc 141, 2) := by decide +kernel
theorem dX7_rest_34 : decode cX7_rest 34 = .ok (.ireturn, 1) := by decide +kernel
theorem dX7_rest_35 : decode cX7_rest 35 = .ok (.iload_n 2, 1) := by decide +kernel
theorem dX7_rest_36 : decode cX7_rest 36 = .ok (.ifCond .ne 9, 3) := by decide +kernel
theorem dX7_rest_39 : decode cX7_rest 39 = .ok (.ldc_w 278, 3) := by decide +kernel
theorem dX7_rest_42 : decode cX7_rest 42 = .ok (.goto 20, 3) := by decide +kernel
theorem dX7_rest_45 : decode cX7_rest 45 = .ok (.iload_n 2, 1) := by decide +kernel
theorem dX7_rest_46 : decode cX7_rest 46 = .ok (.iconst (-1), 1) := by decide +kernel
theorem dX7_rest_47 : decode cX7_rest 47 = .ok (.if_icmp .ne 7, 3) := by decide +kernel
theorem dX7_rest_50 : decode cX7_rest 50 = .ok (.iconst 0, 1) := by decide +kernel
theorem dX7_rest_51 : decode cX7_rest 51 = .ok (.goto 11, 3) := by decide +kernel
theorem dX7_rest_54 : decode cX7_rest 54 = .ok (.aload_n 0, 1) := by decide +kernel
theorem dX7_rest_55 : decode cX7_rest 55 = .ok (.getfield 60, 3) := by decide +kernel
theorem dX7_rest_58 : decode cX7_rest 58 = .ok (.iload_n 1, 1) := by decide +kernel
theorem dX7_rest_59 : decode cX7_rest 59 = .ok (.iaload, 1) := by decide +kernel
theorem dX7_rest_60 : decode cX7_rest 60 = .ok (.iload_n 2, 1) := by decide +kernel
theorem dX7_rest_61 : decode cX7_rest 61 = .ok (.irem, 1) := by decide +kernel
theorem dX7_rest_62 : decode cX7_rest 62 = .ok (.ireturn, 1) := by decide +kernel
theorem dX7_tell_0 : decode cX7_tell 0 = .ok (.aload_n 0, 1) := by decide +kernel
theorem dX7_tell_1 : decode cX7_tell 1 = .ok (.getfield 279, 3) := by decide +kernel
theorem dX7_tell_4 : decode cX7_tell 4 = .ok (.bipush 60, 2) := by decide +kernel
theorem dX7_tell_6 : decode cX7_tell 6 = .ok (.if_icmp .ne 6, 3) := by decide +kernel
theorem dX7_tell_9 : decode cX7_tell 9 = .ok (.ldc 120, 2) := by decide +kernel
theorem dX7_tell_11 : decode cX7_tell 11 = .ok (.ireturn, 1) := by decide +kernel
theorem dX7_tell_12 : decode cX7_tell 12 = .ok (.aload_n 0, 1) := by decide +kernel
theorem dX7_tell_13 : decode cX7_tell 13 = .ok (.getfield 72, 3) := by decide +kernel
theorem dX7_tell_16 : decode cX7_tell 16 = .ok (.aload_n 0, 1) := by decide +kernel
theorem dX7_tell_17 : decode cX7_tell 17 = .ok (.getfield 279, 3) := by decide +kernel
theorem dX7_tell_20 : decode cX7_tell 20 = .ok (.iload_n 1, 1) := by decide +kernel
theorem dX7_tell_21 : decode cX7_tell 21 = .ok (.iastore, 1) := by decide +kernel
theorem dX7_tell_22 : decode cX7_tell 22 = .ok (.aload_n 0, 1) := by decide +kernel
theorem dX7_tell_23 : decode cX7_tell 23 = .ok (.dup, 1) := by decide +kernel
theorem dX7_tell_24 : decode cX7_tell 24 = .ok (.getfield 279, 3) := by decide +kernel
theorem dX7_tell_27 : decode cX7_tell 27 = .ok (.iconst 1, 1) := by decide +kernel
theorem dX7_tell_28 : decode cX7_tell 28 = .ok (.iadd, 1) := by decide +kernel
theorem dX7_tell_29 : decode cX7_tell 29 = .ok (.putfield 279, 3) := by decide +kernel
theorem dX7_tell_32 : decode cX7_tell 32 = .ok (.aload_n 0, 1) := by decide +kernel
theorem dX7_tell_33 : decode cX7_tell 33 = .ok (.getfield 279, 3) := by decide +kernel
theorem dX7_tell_36 : decode cX7_tell 36 = .ok (.ireturn, 1) := by decide +kernel
theorem dX7_check_0 : decode cX7_check 0 = .ok (.aload_n 0, 1) := by decide +kernel
theorem dX7_check_1 : decode cX7_check 1 = .ok (.getfield 279, 3) := by decide +kernel
theorem dX7_check_4 : decode cX7_check 4 = .ok (.istore_n 2, 1) := by decide +kernel
theorem dX7_check_5 : decode cX7_check 5 = .ok (.aload_n 0, 1) := by decide +kernel
theorem dX7_check_6 : decode cX7_check 6 = .ok (.iconst 0, 1) := by decide +kernel
theorem dX7_check_7 : decode cX7_check 7 = .ok (.putfield 279, 3) := by decide +kernel
theorem dX7_check_10 : decode cX7_check 10 = .ok (.iload_n 1, 1) := by decide +kernel
theorem dX7_check_11 : decode cX7_check 11 = .ok (.iconst 1, 1) := by decide +kernel
theorem dX7_check_12 : decode cX7_check 12 = .ok (.bipush 30, 2) := by decide +kernel
theorem dX7_check_14 : decode cX7_check 14 = .ok (.invokestatic 75, 3) := by decide +kernel
theorem dX7_check_17 : decode cX7_check 17 = .ok (.ifCond .ne 6, 3) := by decide +kernel
theorem dX7_check_20 : decode cX7_check 20 = .ok (.ldc 119, 2) := by decide +kernel
theorem dX7_check_22 : decode cX7_check 22 = .ok (.ireturn, 1) := by decide +kernel
theorem dX7_check_23 : decode cX7_check 23 = .ok (.aload_n 0, 1) := by decide +kernel
theorem dX7_check_24 : decode cX7_check 24 = .ok (.getfield 282, 3) := by decide +kernel
theorem dX7_check_27 : decode cX7_check 27 = .ok (.ifCond .ne 7, 3) := by decide +kernel
theorem dX7_check_30 : decode cX7_check 30 = .ok (.ldc_w 278, 3) := by decide +kernel
theorem dX7_check_33 : decode cX7_check 33 = .ok (.ireturn, 1) := by decide +kernel
theorem dX7_check_34 : decode cX7_check 34 = .ok (.aload_n 0, 1) := by decide +kernel
theorem dX7_check_35 : decode cX7_check 35 = .ok (.getfield 9, 3) := by decide +kernel
theorem dX7_check_38 : decode cX7_check 38 = .ok (.aload_n 0, 1) := by decide +kernel
theorem dX7_check_39 : decode cX7_check 39 = .ok (.getfield 16, 3) := by decide +kernel
theorem dX7_check_42 : decode cX7_check 42 = .ok (.invokestatic 181, 3) := by decide +kernel
theorem dX7_check_45 : decode cX7_check 45 = .ok (.aload_n 0, 1) := by decide +kernel
theorem dX7_check_46 : decode cX7_check 46 = .ok (.getfield 13, 3) := by decide +kernel
theorem dX7_check_49 : decode cX7_check 49 = .ok (.aload_n 0, 1) := by decide +kernel
theorem dX7_check_50 : decode cX7_check 50 = .ok (.getfield 9, 3) := by decide +kernel
theorem dX7_check_53 : decode cX7_check 53 = .ok (.invokestatic 181, 3) := by decide +kernel
theorem dX7_check_56 : decode cX7_check 56 = .ok (.iconst 2, 1) := by decide +kernel
theorem dX7_check_57 : decode cX7_check 57 = .ok (.sipush 9999, 3) := by decide +kernel
theorem dX7_check_60 : decode cX7_check 60 = .ok (.aload_n 0, 1) := by decide +kernel
theorem dX7_check_61 : decode cX7_check 61 = .ok (.getfield 9, 3) := by decide +kernel
theorem dX7_check_64 : decode cX7_check 64 = .ok (.iconst 2, 1) := by decide +kernel
theorem dX7_check_65 : decode cX7_check 65 = .ok (.iaload, 1) := by decide +kernel
theorem dX7_check_66 : decode cX7_check 66 = .ok (.isub, 1) := by decide +kernel
theorem dX7_check_67 : decode cX7_check 67 = .ok (.iconst 0, 1) := by decide +kernel
theorem dX7_check_68 : decode cX7_check 68 = .ok (.iload_n 1, 1) := by decide +kernel
theorem dX7_check_69 : decode cX7_check 69 = .ok (.invokestatic 108, 3) := by decide +kernel
theorem dX7_check_72 : decode cX7_check 72 = .ok (.imul, 1) := by decide +kernel
theorem dX7_check_73 : decode cX7_check 73 = .ok (.istore_n 3, 1) := by decide +kernel
theorem dX7_check_74 : decode cX7_check 74 = .ok (.iconst 0, 1) := by decide +kernel
theorem dX7_check_75 : decode cX7_check 75 = .ok (.istore 4, 2) := by decide +kernel
theorem dX7_check_77 : decode cX7_check 77 = .ok (.iconst 0, 1) := by decide +kernel
theorem dX7_check_78 : decode cX7_check 78 = .ok (.istore 5, 2) := by decide +kernel
theorem dX7_check_80 : decode cX7_check 80 = .ok (.iconst 2, 1) := by decide +kernel
theorem dX7_check_81 : decode cX7_check 81 = .ok (.iload 5, 2) := by decide +kernel
theorem dX7_check_83 : decode cX7_check 83 = .ok (.imul, 1) := by decide +kernel
theorem dX7_check_84 : decode cX7_check 84 = .ok (.iload_n 3, 1) := by decide +kernel
theorem dX7_check_85 : decode cX7_check 85 = .ok (.if_icmp .ge 97, 3) := by decide +kernel
theorem dX7_check_88 : decode cX7_check 88 = .ok (.iload 4, 2) := by decide +kernel
theorem dX7_check_90 : decode cX7_check 90 = .ok (.iconst 2, 1) := by decide +kernel
theorem dX7_check_91 : decode cX7_check 91 = .ok (.iload 5, 2) := by decide +kernel
theorem dX7_check_93 : decode cX7_check 93 = .ok (.imul, 1) := by decide +kernel
theorem dX7_check_94 : decode cX7_check 94 = .ok (.if_icmp .ne 88, 3) := by decide +kernel
theorem dX7_check_97 : decode cX7_check 97 = .ok (.aload_n 0, 1) := by decide +kernel
theorem dX7_check_98 : decode cX7_check 98 = .ok (.invokevirtual 169, 3) := by decide +kernel
theorem dX7_check_101 : decode cX7_check 101 = .ok (.iload 4, 2) := by decide +kernel
theorem dX7_check_103 : decode cX7_check 103 = .ok (.iload 4, 2) := by decide +kernel
theorem dX7_check_105 : decode cX7_check 105 = .ok (.iload_n 2, 1) := by decide +kernel
theorem dX7_check_106 : decode cX7_check 106 = .ok (.if_icmp .ge 23, 3) := by decide +kernel
theorem dX7_check_109 : decode cX7_check 109 = .ok (.aload_n 0, 1) := by decide +kernel
theorem dX7_check_110 : decode cX7_check 110 = .ok (.getfield 72, 3) := by decide +kernel
theorem dX7_check_113 : decode cX7_check 113 = .ok (.iload 4, 2) := by decide +kernel
theorem dX7_check_115 : decode cX7_check 115 = .ok (.iaload, 1) := by decide +kernel
theorem dX7_check_116 : decode cX7_check 116 = .ok (.aload_n 0, 1) := by decide +kernel
theorem dX7_check_117 : decode cX7_check 117 = .ok (.getfield 9, 3) := by decide +kernel
theorem dX7_check_120 : decode cX7_check 120 = .ok (.iconst 3, 1) := by decide +kernel
theorem dX7_check_121 : decode cX7_check 121 = .ok (.iaload, 1) := by decide +kernel
theorem dX7_check_122 : decode cX7_check 122 = .ok (.if_icmp .ne 7, 3) := by decide +kernel
theorem dX7_check_125 : decode cX7_check 125 = .ok (.iconst 1, 1) := by decide +kernel
theorem dX7_check_126 : decode cX7_check 126 = .ok (.goto 4, 3) := by decide +kernel
theorem dX7_check_129 : decode cX7_check 129 = .ok (.iconst 0, 1) := by decide +kernel
theorem dX7_check_130 : decode cX7_check 130 = .ok (.iadd, 1) := by decide +kernel
theorem dX7_check_131 : decode cX7_check 131 = .ok (.istore 4, 2) := by decide +kernel
theorem dX7_check_133 : decode cX7_check 133 = .ok (.iload 4, 2) := by decide +kernel
theorem dX7_check_135 : decode cX7_check 135 = .ok (.iload 4, 2) := by decide +kernel
theorem dX7_check_137 : decode cX7_check 137 = .ok (.iconst 2, 1) := by decide +kernel
theorem dX7_check_138 : decode cX7_check 138 = .ok (.iload 5, 2) := by decide +kernel
theorem dX7_check_140 : decode cX7_check 140 = .ok (.imul, 1) := by decide +kernel
theorem dX7_check_141 : decode cX7_check 141 = .ok (.iconst 1, 1) := by decide +kernel
theorem dX7_check_142 : decode cX7_check 142 = .ok (.iadd, 1) := by decide +kernel
theorem dX7_check_143 : decode cX7_check 143 = .ok (.if_icmp .ne 29, 3) := by decide +kernel
theorem dX7_check_146 : decode cX7_check 146 = .ok (.iload 4, 2) := by decide +kernel
theorem dX7_check_148 : decode cX7_check 148 = .ok (.iload_n 2, 1) := by decide +kernel
theorem dX7_check_149 : decode cX7_check 149 = .ok (.if_icmp .ge 23, 3) := by decide +kernel
theorem dX7_check_152 : decode cX7_check 152 = .ok (.aload_n 0, 1) := by decide +kernel
theorem dX7_check_153 : decode cX7_check 153 = .ok (.getfield 72, 3) := by decide +kernel
theorem dX7_check_156 : decode cX7_check 156 = .ok (.iload 4, 2) := by decide +kernel
theorem dX7_check_158 : decode cX7_check 158 = .ok (.iaload, 1) := by decide +kernel
theorem dX7_check_159 : decode cX7_check 159 = .ok (.aload_n 0, 1) := by decide +kernel
theorem dX7_check_160 : decode cX7_check 160 = .ok (.getfield 9, 3) := by decide +kernel
theorem dX7_check_163 : decode cX7_check 163 = .ok (.iconst 5, 1) := by decide +kernel
theorem dX7_check_164 : decode cX7_check 164 = .ok (.iaload, 1) := by decide +kernel
theorem dX7_check_165 : decode cX7_check 165 = .ok (.if_icmp .ne 7, 3) := by decide +kernel
theorem dX7_check_168 : decode cX7_check 168 = .ok (.iconst 1, 1) := by decide +kernel
theorem dX7_check_169 : decode cX7_check 169 = .ok (.goto 4, 3) := by decide +kernel
theorem dX7_check_172 : decode cX7_check 172 = .ok (.iconst 0, 1) := by decide +kernel
theorem dX7_check_173 : decode cX7_check 173 = .ok (.iadd, 1) := by decide +kernel
theorem dX7_check_174 : decode cX7_check 174 = .ok (.istore 4, 2) := by decide +kernel
theorem dX7_check_176 : decode cX7_check 176 = .ok (.iinc 5 1, 3) := by decide +kernel
theorem dX7_check_179 : decode cX7_check 179 = .ok (.goto (-99), 3) := by decide +kernel
theorem dX7_check_182 : decode cX7_check 182 = .ok (.aload_n 0, 1) := by decide +kernel
theorem dX7_check_183 : decode cX7_check 183 = .ok (.getfield 16, 3) := by decide +kernel
theorem dX7_check_186 : decode cX7_check 186 = .ok (.aload_n 0, 1) := by decide +kernel
theorem dX7_check_187 : decode cX7_check 187 = .ok (.getfield 9, 3) := by decide +kernel
theorem dX7_check_190 : decode cX7_check 190 = .ok (.invokestatic 181, 3) := by decide +kernel
theorem dX7_check_193 : decode cX7_check 193 = .ok (.iload 4, 2) := by decide +kernel
theorem dX7_check_195 : decode cX7_check 195 = .ok (.iload_n 2, 1) := by decide +kernel
theorem dX7_check_196 : decode cX7_check 196 = .ok (.if_icmp .ne 13, 3) := by decide +kernel
theorem dX7_check_199 : decode cX7_check 199 = .ok (.iload 4, 2) := by decide +kernel
theorem dX7_check_201 : decode cX7_check 201 = .ok (.iload_n 3, 1) := by decide +kernel
theorem dX7_check_202 : decode cX7_check 202 = .ok (.if_icmp .ne 7, 3) := by decide +kernel
theorem dX7_check_205 : decode cX7_check 205 = .ok (.iconst 0, 1) := by decide +kernel
theorem dX7_check_206 : decode cX7_check 206 = .ok (.goto 7, 3) := by decide +kernel
theorem dX7_check_209 : decode cX7_check 209 = .ok (.iconst 1, 1) := by decide +kernel
theorem dX7_check_210 : decode cX7_check 210 = .ok (.iload 4, 2) := by decide +kernel
theorem dX7_check_212 : decode cX7_check 212 = .ok (.iadd, 1) := by decide +kernel
theorem dX7_check_213 : decode cX7_check 213 = .ok (.ireturn, 1) := by decide +kernel
theorem dX7_keep_0 : decode cX7_keep 0 = .ok (.aload_n 0, 1) := by decide +kernel
theorem dX7_keep_1 : decode cX7_keep 1 = .ok (.getfield 9, 3) := by decide +kernel
theorem dX7_keep_4 : decode cX7_keep 4 = .ok (.aload_n 0, 1) := by decide +kernel
theorem dX7_keep_5 : decode cX7_keep 5 = .ok (.getfield 13, 3) := by decide +kernel
theorem dX7_keep_8 : decode cX7_keep 8 = .ok (.invokestatic 181, 3) := by decide +kernel
theorem dX7_keep_11 : decode cX7_keep 11 = .ok (.aload_n 0, 1) := by decide +kernel
theorem dX7_keep_12 : decode cX7_keep 12 = .ok (.iconst 1, 1) := by decide +kernel
theorem dX7_keep_13 : decode cX7_keep 13 = .ok (.putfield 282, 3) := by decide +kernel
theorem dX7_keep_16 : decode cX7_keep 16 = .ok (.aload_n 0, 1) := by decide +kernel
theorem dX7_keep_17 : decode cX7_keep 17 = .ok (.getfield 9, 3) := by decide +kernel
theorem dX7_keep_20 : decode cX7_keep 20 = .ok (.iconst 1, 1) := by decide +kernel
theorem dX7_keep_21 : decode cX7_keep 21 = .ok (.iaload, 1) := by decide +kernel
theorem dX7_keep_22 : decode cX7_keep 22 = .ok (.ireturn, 1) := by decide +kernel
theorem dX7_back_0 : decode cX7_back 0 = .ok (.aload_n 0, 1) := by decide +kernel
theorem dX7_back_1 : decode cX7_back 1 = .ok (.getfield 282, 3) := by decide +kernel
theorem dX7_back_4 : decode cX7_back 4 = .ok (.ifCond .ne 7, 3) := by decide +kernel
theorem dX7_back_7 : decode cX7_back 7 = .ok (.ldc_w 278, 3) := by decide +kernel
theorem dX7_back_10 : decode cX7_back 10 = .ok (.ireturn, 1) := by decide +kernel
theorem dX7_back_11 : decode cX7_back 11 = .ok (.aload_n 0, 1) := by decide +kernel
theorem dX7_back_12 : decode cX7_back 12 = .ok (.getfield 13, 3) := by decide +kernel
theorem dX7_back_15 : decode cX7_back 15 = .ok (.aload_n 0, 1) := by decide +kernel
theorem dX7_back_16 : decode cX7_back 16 = .ok (.getfield 9, 3) := by decide +kernel
theorem dX7_back_19 : decode cX7_back 19 = .ok (.invokestatic 181, 3) := by decide +kernel
theorem dX7_back_22 : decode cX7_back 22 = .ok (.aload_n 0, 1) := by decide +kernel
theorem dX7_back_23 : decode cX7_back 23 = .ok (.getfield 9, 3) := by decide +kernel
theorem dX7_back_26 : decode cX7_back 26 = .ok (.iconst 1, 1) := by decide +kernel
theorem dX7_back_27 : decode cX7_back 27 = .ok (.iaload, 1) := by decide +kernel
theorem dX7_back_28 : decode cX7_back 28 = .ok (.ireturn, 1) := by decide +kernel
theorem dX7_count_0 : decode cX7_count 0 = .ok (.iload_n 1, 1) := by decide +kernel
theorem dX7_count_1 : decode cX7_count 1 = .ok (.tableswitch 94 0 8 #[51, 58, 58, 58, 58, 69, 77, 82, 87], 51) := by decide +kernel
theorem dX7_count_52 : decode cX7_count 52 = .ok (.aload_n 0, 1) := by decide +kernel
theorem dX7_count_53 : decode cX7_count 53 = .ok (.getfield 9, 3) := by decide +kernel
theorem dX7_count_56 : decode cX7_count 56 = .ok (.iconst 1, 1) := by decide +kernel
theorem dX7_count_57 : decode cX7_count 57 = .ok (.iaload, 1) := by decide +kernel
theorem dX7_count_58 : decode cX7_count 58 = .ok (.ireturn, 1) := by decide +kernel
theorem dX7_count_59 : decode cX7_count 59 = .ok (.aload_n 0, 1) := by decide +kernel
theorem dX7_count_60 : decode cX7_count 60 = .ok (.getfield 9, 3) := by decide +kernel
theorem dX7_count_63 : decode cX7_count 63 = .ok (.iconst 2, 1) := by decide +kernel
theorem dX7_count_64 : decode cX7_count 64 = .ok (.iload_n 1, 1) := by decide +kernel
theorem dX7_count_65 : decode cX7_count 65 = .ok (.iadd, 1) := by decide +kernel
theorem dX7_count_66 : decode cX7_count 66 = .ok (.iconst 1, 1) := by decide +kernel
theorem dX7_count_67 : decode cX7_count 67 = .ok (.isub, 1) := by decide +kernel
theorem dX7_count_68 : decode cX7_count 68 = .ok (.iaload, 1) := by decide +kernel
theorem dX7_count_69 : decode cX7_count 69 = .ok (.ireturn, 1) := by decide +kernel
theorem dX7_count_70 : decode cX7_count 70 = .ok (.aload_n 0, 1) := by decide +kernel
theorem dX7_count_71 : decode cX7_count 71 = .ok (.getfield 9, 3) := by decide +kernel
theorem dX7_count_74 : decode cX7_count 74 = .ok (.bipush 6, 2) := by decide +kernel
theorem dX7_count_76 : decode cX7_count 76 = .ok (.iaload, 1) := by decide +kernel
theorem dX7_count_77 : decode cX7_count 77 = .ok (.ireturn, 1) := by decide +kernel
theorem dX7_count_78 : decode cX7_count 78 = .ok (.aload_n 0, 1) := by decide +kernel
theorem dX7_count_79 : decode cX7_count 79 = .ok (.getfield 279, 3) := by decide +kernel
theorem dX7_count_82 : decode cX7_count 82 = .ok (.ireturn, 1) := by decide +kernel
theorem dX7_count_83 : decode cX7_count 83 = .ok (.aload_n 0, 1) := by decide +kernel
theorem dX7_count_84 : decode cX7_count 84 = .ok (.getfield 203, 3) := by decide +kernel
theorem dX7_count_87 : decode cX7_count 87 = .ok (.ireturn, 1) := by decide +kernel
theorem dX7_count_88 : decode cX7_count 88 = .ok (.aload_n 0, 1) := by decide +kernel
theorem dX7_count_89 : decode cX7_count 89 = .ok (.getfield 9, 3) := by decide +kernel
theorem dX7_count_92 : decode cX7_count 92 = .ok (.iconst 0, 1) := by decide +kernel
theorem dX7_count_93 : decode cX7_count 93 = .ok (.iaload, 1) := by decide +kernel
theorem dX7_count_94 : decode cX7_count 94 = .ok (.ireturn, 1) := by decide +kernel
theorem dX7_count_95 : decode cX7_count 95 = .ok (.ldc 119, 2) := by decide +kernel
theorem dX7_count_97 : decode cX7_count 97 = .ok (.ireturn, 1) := by decide +kernel
theorem dJ11_isValidCodePoint_9a6ad_0 : decode cJ11_isValidCodePoint_9a6ad 0 = .ok (.iload_n 0, 1) := by decide +kernel
theorem dJ11_isValidCodePoint_9a6ad_1 : decode cJ11_isValidCodePoint_9a6ad 1 = .ok (.bipush 16, 2) := by decide +kernel
theorem dJ11_isValidCodePoint_9a6ad_3 : decode cJ11_isValidCodePoint_9a6ad 3 = .ok (.iushr, 1) := by decide +kernel
theorem dJ11_isValidCodePoint_9a6ad_4 : decode cJ11_isValidCodePoint_9a6ad 4 = .ok (.istore_n 1, 1) := by decide +kernel
theorem dJ11_isValidCodePoint_9a6ad_5 : decode cJ11_isValidCodePoint_9a6ad 5 = .ok (.iload_n 1, 1) := by decide +kernel
theorem dJ11_isValidCodePoint_9a6ad_6 : decode cJ11_isValidCodePoint_9a6ad 6 = .ok (.bipush 17, 2) := by decide +kernel
theorem dJ11_isValidCodePoint_9a6ad_8 : decode cJ11_isValidCodePoint_9a6ad 8 = .ok (.if_icmp .ge 7, 3) := by decide +kernel
theorem dJ11_isValidCodePoint_9a6ad_11 : decode cJ11_isValidCodePoint_9a6ad 11 = .ok (.iconst 1, 1) := by decide +kernel
theorem dJ11_isValidCodePoint_9a6ad_12 : decode cJ11_isValidCodePoint_9a6ad 12 = .ok (.goto 4, 3) := by decide +kernel
theorem dJ11_isValidCodePoint_9a6ad_15 : decode cJ11_isValidCodePoint_9a6ad 15 = .ok (.iconst 0, 1) := by decide +kernel
theorem dJ11_isValidCodePoint_9a6ad_16 : decode cJ11_isValidCodePoint_9a6ad 16 = .ok (.ireturn, 1) := by decide +kernel
theorem dJ11_highSurrogate_5068e_0 : decode cJ11_highSurrogate_5068e 0 = .ok (.iload_n 0, 1) := by decide +kernel
theorem dJ11_highSurrogate_5068e_1 : decode cJ11_highSurrogate_5068e 1 = .ok (.bipush 10, 2) := by decide +kernel
theorem dJ11_highSurrogate_5068e_3 : decode cJ11_highSurrogate_5068e 3 = .ok (.iushr, 1) := by decide +kernel
theorem dJ11_highSurrogate_5068e_4 : decode cJ11_highSurrogate_5068e 4 = .ok (.ldc 110, 2) := by decide +kernel
theorem dJ11_highSurrogate_5068e_6 : decode cJ11_highSurrogate_5068e 6 = .ok (.iadd, 1) := by decide +kernel
theorem dJ11_highSurrogate_5068e_7 : decode cJ11_highSurrogate_5068e 7 = .ok (.i2c, 1) := by decide +kernel
theorem dJ11_highSurrogate_5068e_8 : decode cJ11_highSurrogate_5068e 8 = .ok (.ireturn, 1) := by decide +kernel
theorem dJ11_lowSurrogate_5068e_0 : decode cJ11_lowSurrogate_5068e 0 = .ok (.iload_n 0, 1) := by decide +kernel
theorem dJ11_lowSurrogate_5068e_1 : decode cJ11_lowSurrogate_5068e 1 = .ok (.sipush 1023, 3) := by decide +kernel
theorem dJ11_lowSurrogate_5068e_4 : decode cJ11_lowSurrogate_5068e 4 = .ok (.iand, 1) := by decide +kernel
theorem dJ11_lowSurrogate_5068e_5 : decode cJ11_lowSurrogate_5068e 5 = .ok (.ldc 76, 2) := by decide +kernel
theorem dJ11_lowSurrogate_5068e_7 : decode cJ11_lowSurrogate_5068e 7 = .ok (.iadd, 1) := by decide +kernel
theorem dJ11_lowSurrogate_5068e_8 : decode cJ11_lowSurrogate_5068e 8 = .ok (.i2c, 1) := by decide +kernel
theorem dJ11_lowSurrogate_5068e_9 : decode cJ11_lowSurrogate_5068e 9 = .ok (.ireturn, 1) := by decide +kernel
theorem dJ6_bitCount_0f7a4_0 : decode cJ6_bitCount_0f7a4 0 = .ok (.iload_n 0, 1) := by decide +kernel
theorem dJ6_bitCount_0f7a4_1 : decode cJ6_bitCount_0f7a4 1 = .ok (.iload_n 0, 1) := by decide +kernel
theorem dJ6_bitCount_0f7a4_2 : decode cJ6_bitCount_0f7a4 2 = .ok (.iconst 1, 1) := by decide +kernel
theorem dJ6_bitCount_0f7a4_3 : decode cJ6_bitCount_0f7a4 3 = .ok (.iushr, 1) := by decide +kernel
theorem dJ6_bitCount_0f7a4_4 : decode cJ6_bitCount_0f7a4 4 = .ok (.ldc_w 265, 3) := by decide +kernel
theorem dJ6_bitCount_0f7a4_7 : decode cJ6_bitCount_0f7a4 7 = .ok (.iand, 1) := by decide +kernel
theorem dJ6_bitCount_0f7a4_8 : decode cJ6_bitCount_0f7a4 8 = .ok (.isub, 1) := by decide +kernel
theorem dJ6_bitCount_0f7a4_9 : decode cJ6_bitCount_0f7a4 9 = .ok (.istore_n 0, 1) := by decide +kernel
theorem dJ6_bitCount_0f7a4_10 : decode cJ6_bitCount_0f7a4 10 = .ok (.iload_n 0, 1) := by decide +kernel
theorem dJ6_bitCount_0f7a4_11 : decode cJ6_bitCount_0f7a4 11 = .ok (.ldc_w 266, 3) := by decide +kernel
theorem dJ6_bitCount_0f7a4_14 : decode cJ6_bitCount_0f7a4 14 = .ok (.iand, 1) := by decide +kernel
theorem dJ6_bitCount_0f7a4_15 : decode cJ6_bitCount_0f7a4 15 = .ok (.iload_n 0, 1) := by decide +kernel
theorem dJ6_bitCount_0f7a4_16 : decode cJ6_bitCount_0f7a4 16 = .ok (.iconst 2, 1) := by decide +kernel
theorem dJ6_bitCount_0f7a4_17 : decode cJ6_bitCount_0f7a4 17 = .ok (.iushr, 1) := by decide +kernel
theorem dJ6_bitCount_0f7a4_18 : decode cJ6_bitCount_0f7a4 18 = .ok (.ldc_w 266, 3) := by decide +kernel
theorem dJ6_bitCount_0f7a4_21 : decode cJ6_bitCount_0f7a4 21 = .ok (.iand, 1) := by decide +kernel
theorem dJ6_bitCount_0f7a4_22 : decode cJ6_bitCount_0f7a4 22 = .ok (.iadd, 1) := by decide +kernel
theorem dJ6_bitCount_0f7a4_23 : decode cJ6_bitCount_0f7a4 23 = .ok (.istore_n 0, 1) := by decide +kernel
theorem dJ6_bitCount_0f7a4_24 : decode cJ6_bitCount_0f7a4 24 = .ok (.iload_n 0, 1) := by decide +kernel
theorem dJ6_bitCount_0f7a4_25 : decode cJ6_bitCount_0f7a4 25 = .ok (.iload_n 0, 1) := by decide +kernel
theorem dJ6_bitCount_0f7a4_26 : decode cJ6_bitCount_0f7a4 26 = .ok (.iconst 4, 1) := by decide +kernel
theorem dJ6_bitCount_0f7a4_27 : decode cJ6_bitCount_0f7a4 27 = .ok (.iushr, 1) := by decide +kernel
theorem dJ6_bitCount_0f7a4_28 : decode cJ6_bitCount_0f7a4 28 = .ok (.iadd, 1) := by decide +kernel
theorem dJ6_bitCount_0f7a4_29 : decode cJ6_bitCount_0f7a4 29 = .ok (.ldc_w 267, 3) := by decide +kernel
theorem dJ6_bitCount_0f7a4_32 : decode cJ6_bitCount_0f7a4 32 = .ok (.iand, 1) := by decide +kernel
theorem dJ6_bitCount_0f7a4_33 : decode cJ6_bitCount_0f7a4 33 = .ok (.istore_n 0, 1) := by decide +kernel
theorem dJ6_bitCount_0f7a4_34 : decode cJ6_bitCount_0f7a4 34 = .ok (.iload_n 0, 1) := by decide +kernel
theorem dJ6_bitCount_0f7a4_35 : decode cJ6_bitCount_0f7a4 35 = .ok (.iload_n 0, 1) := by decide +kernel
theorem dJ6_bitCount_0f7a4_36 : decode cJ6_bitCount_0f7a4 36 = .ok (.bipush 8, 2) := by decide +kernel
theorem dJ6_bitCount_0f7a4_38 : decode cJ6_bitCount_0f7a4 38 = .ok (.iushr, 1) := by decide +kernel
theorem dJ6_bitCount_0f7a4_39 : decode cJ6_bitCount_0f7a4 39 = .ok (.iadd, 1) := by decide +kernel
theorem dJ6_bitCount_0f7a4_40 : decode cJ6_bitCount_0f7a4 40 = .ok (.istore_n 0, 1) := by decide +kernel
theorem dJ6_bitCount_0f7a4_41 : decode cJ6_bitCount_0f7a4 41 = .ok (.iload_n 0, 1) := by decide +kernel
theorem dJ6_bitCount_0f7a4_42 : decode cJ6_bitCount_0f7a4 42 = .ok (.iload_n 0, 1) := by decide +kernel
theorem dJ6_bitCount_0f7a4_43 : decode cJ6_bitCount_0f7a4 43 = .ok (.bipush 16, 2) := by decide +kernel
theorem dJ6_bitCount_0f7a4_45 : decode cJ6_bitCount_0f7a4 45 = .ok (.iushr, 1) := by decide +kernel
theorem dJ6_bitCount_0f7a4_46 : decode cJ6_bitCount_0f7a4 46 = .ok (.iadd, 1) := by decide +kernel
theorem dJ6_bitCount_0f7a4_47 : decode cJ6_bitCount_0f7a4 47 = .ok (.istore_n 0, 1) := by decide +kernel
theorem dJ6_bitCount_0f7a4_48 : decode cJ6_bitCount_0f7a4 48 = .ok (.iload_n 0, 1) := by decide +kernel
theorem dJ6_bitCount_0f7a4_49 : decode cJ6_bitCount_0f7a4 49 = .ok (.bipush 63, 2) := by decide +kernel
theorem dJ6_bitCount_0f7a4_51 : decode cJ6_bitCount_0f7a4 51 = .ok (.iand, 1) := by decide +kernel
theorem dJ6_bitCount_0f7a4_52 : decode cJ6_bitCount_0f7a4 52 = .ok (.ireturn, 1) := by decide +kernel
theorem dJ9_abs_0f7a4_0 : decode cJ9_abs_0f7a4 0 = .ok (.iload_n 0, 1) := by decide +kernel
theorem dJ9_abs_0f7a4_1 : decode cJ9_abs_0f7a4 1 = .ok (.ifCond .ge 8, 3) := by decide +kernel
theorem dJ9_abs_0f7a4_4 : decode cJ9_abs_0f7a4 4 = .ok (.iload_n 0, 1) := by decide +kernel
theorem dJ9_abs_0f7a4_5 : decode cJ9_abs_0f7a4 5 = .ok (.ineg, 1) := by decide +kernel
theorem dJ9_abs_0f7a4_6 : decode cJ9_abs_0f7a4 6 = .ok (.goto 4, 3) := by decide +kernel
theorem dJ9_abs_0f7a4_9 : decode cJ9_abs_0f7a4 9 = .ok (.iload_n 0, 1) := by decide +kernel
theorem dJ9_abs_0f7a4_10 : decode cJ9_abs_0f7a4 10 = .ok (.ireturn, 1) := by decide +kernel
theorem dJ9_max_7cf53_0 : decode cJ9_max_7cf53 0 = .ok (.iload_n 0, 1) := by decide +kernel
theorem dJ9_max_7cf53_1 : decode cJ9_max_7cf53 1 = .ok (.iload_n 1, 1) := by decide +kernel
theorem dJ9_max_7cf53_2 : decode cJ9_max_7cf53 2 = .ok (.if_icmp .lt 7, 3) := by decide +kernel
theorem dJ9_max_7cf53_5 : decode cJ9_max_7cf53 5 = .ok (.iload_n 0, 1) := by decide +kernel
theorem dJ9_max_7cf53_6 : decode cJ9_max_7cf53 6 = .ok (.goto 4, 3) := by decide +kernel
theorem dJ9_max_7cf53_9 : decode cJ9_max_7cf53 9 = .ok (.iload_n 1, 1) := by decide +kernel
theorem dJ9_max_7cf53_10 : decode cJ9_max_7cf53 10 = .ok (.ireturn, 1) := by decide +kernel
theorem dJ9_min_7cf53_0 : decode cJ9_min_7cf53 0 = .ok (.iload_n 0, 1) := by decide +kernel
theorem dJ9_min_7cf53_1 : decode cJ9_min_7cf53 1 = .ok (.iload_n 1, 1) := by decide +kernel
theorem dJ9_min_7cf53_2 : decode cJ9_min_7cf53 2 = .ok (.if_icmp .gt 7, 3) := by decide +kernel
theorem dJ9_min_7cf53_5 : decode cJ9_min_7cf53 5 = .ok (.iload_n 0, 1) := by decide +kernel
theorem dJ9_min_7cf53_6 : decode cJ9_min_7cf53 6 = .ok (.goto 4, 3) := by decide +kernel
theorem dJ9_min_7cf53_9 : decode cJ9_min_7cf53 9 = .ok (.iload_n 1, 1) := by decide +kernel
theorem dJ9_min_7cf53_10 : decode cJ9_min_7cf53 10 = .ok (.ireturn, 1) := by decide +kernel
theorem dJ0_length_8abf5_0 : decode cJ0_length_8abf5 0 = .ok (.aload_n 0, 1) := by decide +kernel
theorem dJ0_length_8abf5_1 : decode cJ0_length_8abf5 1 = .ok (.getfield 9, 3) := by decide +kernel
theorem dJ0_length_8abf5_4 : decode cJ0_length_8abf5 4 = .ok (.arraylength, 1) := by decide +kernel
theorem dJ0_length_8abf5_5 : decode cJ0_length_8abf5 5 = .ok (.aload_n 0, 1) := by decide +kernel
theorem dJ0_length_8abf5_6 : decode cJ0_length_8abf5 6 = .ok (.invokevirtual 335, 3) := by decide +kernel
theorem dJ0_length_8abf5_9 : decode cJ0_length_8abf5 9 = .ok (.ishr, 1) := by decide +kernel
theorem dJ0_length_8abf5_10 : decode cJ0_length_8abf5 10 = .ok (.ireturn, 1) := by decide +kernel
theorem dJ0_charAt_5068e_0 : decode cJ0_charAt_5068e 0 = .ok (.aload_n 0, 1) := by decide +kernel
theorem dJ0_charAt_5068e_1 : decode cJ0_charAt_5068e 1 = .ok (.invokevirtual 492, 3) := by decide +kernel
theorem dJ0_charAt_5068e_4 : decode cJ0_charAt_5068e 4 = .ok (.ifCond .eq 12, 3) := by decide +kernel
theorem dJ0_charAt_5068e_7 : decode cJ0_charAt_5068e 7 = .ok (.aload_n 0, 1) := by decide +kernel
theorem dJ0_charAt_5068e_8 : decode cJ0_charAt_5068e 8 = .ok (.getfield 9, 3) := by decide +kernel
theorem dJ0_charAt_5068e_11 : decode cJ0_charAt_5068e 11 = .ok (.iload_n 1, 1) := by decide +kernel
theorem dJ0_charAt_5068e_12 : decode cJ0_charAt_5068e 12 = .ok (.invokestatic 495, 3) := by decide +kernel
theorem dJ0_charAt_5068e_15 : decode cJ0_charAt_5068e 15 = .ok (.ireturn, 1) := by decide +kernel
theorem dJ0_charAt_5068e_16 : decode cJ0_charAt_5068e 16 = .ok (.aload_n 0, 1) := by decide +kernel
theorem dJ0_charAt_5068e_17 : decode cJ0_charAt_5068e 17 = .ok (.getfield 9, 3) := by decide +kernel
theorem dJ0_charAt_5068e_20 : decode cJ0_charAt_5068e 20 = .ok (.iload_n 1, 1) := by decide +kernel
theorem dJ0_charAt_5068e_21 : decode cJ0_charAt_5068e 21 = .ok (.invokestatic 498, 3) := by decide +kernel
theorem dJ0_charAt_5068e_24 : decode cJ0_charAt_5068e 24 = .ok (.ireturn, 1) := by decide +kernel
theorem dJ0_indexOf_0f7a4_0 : decode cJ0_indexOf_0f7a4 0 = .ok (.aload_n 0, 1) := by decide +kernel
theorem dJ0_indexOf_0f7a4_1 : decode cJ0_indexOf_0f7a4 1 = .ok (.iload_n 1, 1) := by decide +kernel
theorem dJ0_indexOf_0f7a4_2 : decode cJ0_indexOf_0f7a4 2 = .ok (.iconst 0, 1) := by decide +kernel
theorem dJ0_indexOf_0f7a4_3 : decode cJ0_indexOf_0f7a4 3 = .ok (.invokevirtual 633, 3) := by decide +kernel
theorem dJ0_indexOf_0f7a4_6 : decode cJ0_indexOf_0f7a4 6 = .ok (.ireturn, 1) := by decide +kernel
theorem dJ0_indexOf_7cf53_0 : decode cJ0_indexOf_7cf53 0 = .ok (.aload_n 0, 1) := by decide +kernel
theorem dJ0_indexOf_7cf53_1 : decode cJ0_indexOf_7cf53 1 = .ok (.invokevirtual 492, 3) := by decide +kernel
theorem dJ0_indexOf_7cf53_4 : decode cJ0_indexOf_7cf53 4 = .ok (.ifCond .eq 19, 3) := by decide +kernel
theorem dJ0_indexOf_7cf53_7 : decode cJ0_indexOf_7cf53 7 = .ok (.aload_n 0, 1) := by decide +kernel
theorem dJ0_indexOf_7cf53_8 : decode cJ0_indexOf_7cf53 8 = .ok (.getfield 9, 3) := by decide +kernel
theorem dJ0_indexOf_7cf53_11 : decode cJ0_indexOf_7cf53 11 = .ok (.iload_n 1, 1) := by decide +kernel
theorem dJ0_indexOf_7cf53_12 : decode cJ0_indexOf_7cf53 12 = .ok (.iload_n 2, 1) := by decide +kernel
theorem dJ0_indexOf_7cf53_13 : decode cJ0_indexOf_7cf53 13 = .ok (.aload_n 0, 1) := by decide +kernel
theorem dJ0_indexOf_7cf53_14 : decode cJ0_indexOf_7cf53 14 = .ok (.invokevirtual 505, 3) := by decide +kernel
theorem dJ0_indexOf_7cf53_17 : decode cJ0_indexOf_7cf53 17 = .ok (.invokestatic 637, 3) := by decide +kernel
theorem dJ0_indexOf_7cf53_20 : decode cJ0_indexOf_7cf53 20 = .ok (.goto 16, 3) := by decide +kernel
theorem dJ0_indexOf_7cf53_23 : decode cJ0_indexOf_7cf53 23 = .ok (.aload_n 0, 1) := by decide +kernel
theorem dJ0_indexOf_7cf53_24 : decode cJ0_indexOf_7cf53 24 = .ok (.getfield 9, 3) := by decide +kernel
theorem dJ0_indexOf_7cf53_27 : decode cJ0_indexOf_7cf53 27 = .ok (.iload_n 1, 1) := by decide +kernel
theorem dJ0_indexOf_7cf53_28 : decode cJ0_indexOf_7cf53 28 = .ok (.iload_n 2, 1) := by decide +kernel
theorem dJ0_indexOf_7cf53_29 : decode cJ0_indexOf_7cf53 29 = .ok (.aload_n 0, 1) := by decide +kernel
theorem dJ0_indexOf_7cf53_30 : decode cJ0_indexOf_7cf53 30 = .ok (.invokevirtual 505, 3) := by decide +kernel
theorem dJ0_indexOf_7cf53_33 : decode cJ0_indexOf_7cf53 33 = .ok (.invokestatic 640, 3) := by decide +kernel
theorem dJ0_indexOf_7cf53_36 : decode cJ0_indexOf_7cf53 36 = .ok (.ireturn, 1) := by decide +kernel
theorem dJ0_coder_7d493_0 : decode cJ0_coder_7d493 0 = .ok (.getstatic 38, 3) := by decide +kernel
theorem dJ0_coder_7d493_3 : decode cJ0_coder_7d493 3 = .ok (.ifCond .eq 10, 3) := by decide +kernel
theorem dJ0_coder_7d493_6 : decode cJ0_coder_7d493 6 = .ok (.aload_n 0, 1) := by decide +kernel
theorem dJ0_coder_7d493_7 : decode cJ0_coder_7d493 7 = .ok (.getfield 15, 3) := by decide +kernel
theorem dJ0_coder_7d493_10 : decode cJ0_coder_7d493 10 = .ok (.goto 4, 3) := by decide +kernel
theorem dJ0_coder_7d493_13 : decode cJ0_coder_7d493 13 = .ok (.iconst 1, 1) := by decide +kernel
theorem dJ0_coder_7d493_14 : decode cJ0_coder_7d493 14 = .ok (.ireturn, 1) := by decide +kernel
theorem dJ0_isLatin1_aae02_0 : decode cJ0_isLatin1_aae02 0 = .ok (.getstatic 38, 3) := by decide +kernel
theorem dJ0_isLatin1_aae02_3 : decode cJ0_isLatin1_aae02 3 = .ok (.ifCond .eq 14, 3) := by decide +kernel
theorem dJ0_isLatin1_aae02_6 : decode cJ0_isLatin1_aae02 6 = .ok (.aload_n 0, 1) := by decide +kernel
theorem dJ0_isLatin1_aae02_7 : decode cJ0_isLatin1_aae02 7 = .ok (.getfield 15, 3) := by decide +kernel
theorem dJ0_isLatin1_aae02_10 : decode cJ0_isLatin1_aae02 10 = .ok (.ifCond .ne 7, 3) := by decide +kernel
theorem dJ0_isLatin1_aae02_13 : decode cJ0_isLatin1_aae02 13 = .ok (.iconst 1, 1) := by decide +kernel
theorem dJ0_isLatin1_aae02_14 : decode cJ0_isLatin1_aae02 14 = .ok (.goto 4, 3) := by decide +kernel
theorem dJ0_isLatin1_aae02_17 : decode cJ0_isLatin1_aae02 17 = .ok (.iconst 0, 1) := by decide +kernel
theorem dJ0_isLatin1_aae02_18 : decode cJ0_isLatin1_aae02 18 = .ok (.ireturn, 1) := by decide +kernel
theorem dJ0_checkIndex_df160_0 : decode cJ0_checkIndex_df160 0 = .ok (.iload_n 0, 1) := by decide +kernel
theorem dJ0_checkIndex_df160_1 : decode cJ0_checkIndex_df160 1 = .ok (.iload_n 1, 1) := by decide +kernel
theorem dJ0_checkIndex_df160_2 : decode cJ0_checkIndex_df160 2 = .ok (.getstatic 1053, 3) := by decide +kernel
theorem dJ0_checkIndex_df160_5 : decode cJ0_checkIndex_df160 5 = .ok (.invokestatic 1059, 3) := by decide +kernel
theorem dJ0_checkIndex_df160_8 : decode cJ0_checkIndex_df160 8 = .ok (.pop, 1) := by decide +kernel
theorem dJ0_checkIndex_df160_9 : decode cJ0_checkIndex_df160 9 = .ok (.return_, 1) := by decide +kernel
theorem dJ0_checkBoundsBeginEnd_23922_0 : decode cJ0_checkBoundsBeginEnd_23922 0 = .ok (.iload_n 0, 1) := by decide +kernel
theorem dJ0_checkBoundsBeginEnd_23922_1 : decode cJ0_checkBoundsBeginEnd_23922 1 = .ok (.iload_n 1, 1) := by decide +kernel
theorem dJ0_checkBoundsBeginEnd_23922_2 : decode cJ0_checkBoundsBeginEnd_23922 2 = .ok (.iload_n 2, 1) := by decide +kernel
theorem dJ0_checkBoundsBeginEnd_23922_3 : decode cJ0_checkBoundsBeginEnd_23922 3 = .ok (.getstatic 1053, 3) := by decide +kernel
theorem dJ0_checkBoundsBeginEnd_23922_6 : decode cJ0_checkBoundsBeginEnd_23922 6 = .ok (.invokestatic 1062, 3) := by decide +kernel
theorem dJ0_checkBoundsBeginEnd_23922_9 : decode cJ0_checkBoundsBeginEnd_23922 9 = .ok (.pop, 1) := by decide +kernel
theorem dJ0_checkBoundsBeginEnd_23922_10 : decode cJ0_checkBoundsBeginEnd_23922 10 = .ok (.return_, 1) := by decide +kernel
theorem dJ1_charAt_3b067_0 : decode cJ1_charAt_3b067 0 = .ok (.iload_n 1, 1) := by decide +kernel
theorem dJ1_charAt_3b067_1 : decode cJ1_charAt_3b067 1 = .ok (.aload_n 0, 1) := by decide +kernel
theorem dJ1_charAt_3b067_2 : decode cJ1_charAt_3b067 2 = .ok (.arraylength, 1) := by decide +kernel
theorem dJ1_charAt_3b067_3 : decode cJ1_charAt_3b067 3 = .ok (.invokestatic 9, 3) := by decide +kernel
theorem dJ1_charAt_3b067_6 : decode cJ1_charAt_3b067 6 = .ok (.aload_n 0, 1) := by decide +kernel
theorem dJ1_charAt_3b067_7 : decode cJ1_charAt_3b067 7 = .ok (.iload_n 1, 1) := by decide +kernel
theorem dJ1_charAt_3b067_8 : decode cJ1_charAt_3b067 8 = .ok (.baload, 1) := by decide +kernel
theorem dJ1_charAt_3b067_9 : decode cJ1_charAt_3b067 9 = .ok (.sipush 255, 3) := by decide +kernel
theorem dJ1_charAt_3b067_12 : decode cJ1_charAt_3b067 12 = .ok (.iand, 1) := by decide +kernel
theorem dJ1_charAt_3b067_13 : decode cJ1_charAt_3b067 13 = .ok (.i2c, 1) := by decide +kernel
theorem dJ1_charAt_3b067_14 : decode cJ1_charAt_3b067 14 = .ok (.ireturn, 1) := by decide +kernel
theorem dJ1_canEncode_9a6ad_0 : decode cJ1_canEncode_9a6ad 0 = .ok (.iload_n 0, 1) := by decide +kernel
theorem dJ1_canEncode_9a6ad_1 : decode cJ1_canEncode_9a6ad 1 = .ok (.ifCond .lt 14, 3) := by decide +kernel
theorem dJ1_canEncode_9a6ad_4 : decode cJ1_canEncode_9a6ad 4 = .ok (.iload_n 0, 1) := by decide +kernel
theorem dJ1_canEncode_9a6ad_5 : decode cJ1_canEncode_9a6ad 5 = .ok (.sipush 255, 3) := by decide +kernel
theorem dJ1_canEncode_9a6ad_8 : decode cJ1_canEncode_9a6ad 8 = .ok (.if_icmp .gt 7, 3) := by decide +kernel
theorem dJ1_canEncode_9a6ad_11 : decode cJ1_canEncode_9a6ad 11 = .ok (.iconst 1, 1) := by decide +kernel
theorem dJ1_canEncode_9a6ad_12 : decode cJ1_canEncode_9a6ad 12 = .ok (.goto 4, 3) := by decide +kernel
theorem dJ1_canEncode_9a6ad_15 : decode cJ1_canEncode_9a6ad 15 = .ok (.iconst 0, 1) := by decide +kernel
theorem dJ1_canEncode_9a6ad_16 : decode cJ1_canEncode_9a6ad 16 = .ok (.ireturn, 1) := by decide +kernel
theorem dJ1_indexOf_4cfef_0 : decode cJ1_indexOf_4cfef 0 = .ok (.iload_n 1, 1) := by decide +kernel
theorem dJ1_indexOf_4cfef_1 : decode cJ1_indexOf_4cfef 1 = .ok (.invokestatic 88, 3) := by decide +kernel
theorem dJ1_indexOf_4cfef_4 : decode cJ1_indexOf_4cfef 4 = .ok (.ifCond .ne 5, 3) := by decide +kernel
theorem dJ1_indexOf_4cfef_7 : decode cJ1_indexOf_4cfef 7 = .ok (.iconst (-1), 1) := by decide +kernel
theorem dJ1_indexOf_4cfef_8 : decode cJ1_indexOf_4cfef 8 = .ok (.ireturn, 1) := by decide +kernel
theorem dJ1_indexOf_4cfef_9 : decode cJ1_indexOf_4cfef 9 = .ok (.iload_n 2, 1) := by decide +kernel
theorem dJ1_indexOf_4cfef_10 : decode cJ1_indexOf_4cfef 10 = .ok (.iconst 0, 1) := by decide +kernel
theorem dJ1_indexOf_4cfef_11 : decode cJ1_indexOf_4cfef 11 = .ok (.invokestatic 92, 3) := by decide +kernel
theorem dJ1_indexOf_4cfef_14 : decode cJ1_indexOf_4cfef 14 = .ok (.istore_n 2, 1) := by decide +kernel
theorem dJ1_indexOf_4cfef_15 : decode cJ1_indexOf_4cfef 15 = .ok (.iload_n 3, 1) := by decide +kernel
theorem dJ1_indexOf_4cfef_16 : decode cJ1_indexOf_4cfef 16 = .ok (.aload_n 0, 1) := by decide +kernel
theorem dJ1_indexOf_4cfef_17 : decode cJ1_indexOf_4cfef 17 = .ok (.arraylength, 1) := by decide +kernel
theorem dJ1_indexOf_4cfef_18 : decode cJ1_indexOf_4cfef 18 = .ok (.invokestatic 38, 3) := by decide +kernel
theorem dJ1_indexOf_4cfef_21 : decode cJ1_indexOf_4cfef 21 = .ok (.istore_n 3, 1) := by decide +kernel
theorem dJ1_indexOf_4cfef_22 : decode cJ1_indexOf_4cfef 22 = .ok (.iload_n 2, 1) := by decide +kernel
theorem dJ1_indexOf_4cfef_23 : decode cJ1_indexOf_4cfef 23 = .ok (.iload_n 3, 1) := by decide +kernel
theorem dJ1_indexOf_4cfef_24 : decode cJ1_indexOf_4cfef 24 = .ok (.if_icmp .lt 5, 3) := by decide +kernel
theorem dJ1_indexOf_4cfef_27 : decode cJ1_indexOf_4cfef 27 = .ok (.iconst (-1), 1) := by decide +kernel
theorem dJ1_indexOf_4cfef_28 : decode cJ1_indexOf_4cfef 28 = .ok (.ireturn, 1) := by decide +kernel
theorem dJ1_indexOf_4cfef_29 : decode cJ1_indexOf_4cfef 29 = .ok (.aload_n 0, 1) := by decide +kernel
theorem dJ1_indexOf_4cfef_30 : decode cJ1_indexOf_4cfef 30 = .ok (.iload_n 1, 1) := by decide +kernel
theorem dJ1_indexOf_4cfef_31 : decode cJ1_indexOf_4cfef 31 = .ok (.iload_n 2, 1) := by decide +kernel
theorem dJ1_indexOf_4cfef_32 : decode cJ1_indexOf_4cfef 32 = .ok (.iload_n 3, 1) := by decide +kernel
theorem dJ1_indexOf_4cfef_33 : decode cJ1_indexOf_4cfef 33 = .ok (.invokestatic 95, 3) := by decide +kernel
theorem dJ1_indexOf_4cfef_36 : decode cJ1_indexOf_4cfef 36 = .ok (.ireturn, 1) := by decide +kernel
theorem dJ1_indexOfChar_4cfef_0 : decode cJ1_indexOfChar_4cfef 0 = .ok (.iload_n 1, 1) := by decide +kernel
theorem dJ1_indexOfChar_4cfef_1 : decode cJ1_indexOfChar_4cfef 1 = .ok (.i2b, 1) := by decide +kernel
theorem dJ1_indexOfChar_4cfef_2 : decode cJ1_indexOfChar_4cfef 2 = .ok (.istore 4, 2) := by decide +kernel
theorem dJ1_indexOfChar_4cfef_4 : decode cJ1_indexOfChar_4cfef 4 = .ok (.iload_n 2, 1) := by decide +kernel
theorem dJ1_indexOfChar_4cfef_5 : decode cJ1_indexOfChar_4cfef 5 = .ok (.istore 5, 2) := by decide +kernel
theorem dJ1_indexOfChar_4cfef_7 : decode cJ1_indexOfChar_4cfef 7 = .ok (.iload 5, 2) := by decide +kernel
theorem dJ1_indexOfChar_4cfef_9 : decode cJ1_indexOfChar_4cfef 9 = .ok (.iload_n 3, 1) := by decide +kernel
theorem dJ1_indexOfChar_4cfef_10 : decode cJ1_indexOfChar_4cfef 10 = .ok (.if_icmp .ge 21, 3) := by decide +kernel
theorem dJ1_indexOfChar_4cfef_13 : decode cJ1_indexOfChar_4cfef 13 = .ok (.aload_n 0, 1) := by decide +kernel
theorem dJ1_indexOfChar_4cfef_14 : decode cJ1_indexOfChar_4cfef 14 = .ok (.iload 5, 2) := by decide +kernel
theorem dJ1_indexOfChar_4cfef_16 : decode cJ1_indexOfChar_4cfef 16 = .ok (.baload, 1) := by decide +kernel
theorem dJ1_indexOfChar_4cfef_17 : decode cJ1_indexOfChar_4cfef 17 = .ok (.iload 4, 2) := by decide +kernel
theorem dJ1_indexOfChar_4cfef_19 : decode cJ1_indexOfChar_4cfef 19 = .ok (.if_icmp .ne 6, 3) := by decide +kernel
theorem dJ1_indexOfChar_4cfef_22 : decode cJ1_indexOfChar_4cfef 22 = .ok (.iload 5, 2) := by decide +kernel
theorem dJ1_indexOfChar_4cfef_24 : decode cJ1_indexOfChar_4cfef 24 = .ok (.ireturn, 1) := by decide +kernel
theorem dJ1_indexOfChar_4cfef_25 : decode cJ1_indexOfChar_4cfef 25 = .ok (.iinc 5 1, 3) := by decide +kernel
theorem dJ1_indexOfChar_4cfef_28 : decode cJ1_indexOfChar_4cfef 28 = .ok (.goto (-21), 3) := by decide +kernel
theorem dJ1_indexOfChar_4cfef_31 : decode cJ1_indexOfChar_4cfef 31 = .ok (.iconst (-1), 1) := by decide +kernel
theorem dJ1_indexOfChar_4cfef_32 : decode cJ1_indexOfChar_4cfef 32 = .ok (.ireturn, 1) := by decide +kernel
theorem dJ2_getChar_3b067_0 : decode cJ2_getChar_3b067 0 = .ok (.getstatic 44, 3) := by decide +kernel
theorem dJ2_getChar_3b067_3 : decode cJ2_getChar_3b067 3 = .ok (.ifCond .ne 25, 3) := by decide +kernel
theorem dJ2_getChar_3b067_6 : decode cJ2_getChar_3b067 6 = .ok (.iload_n 1, 1) := by decide +kernel
theorem dJ2_getChar_3b067_7 : decode cJ2_getChar_3b067 7 = .ok (.ifCond .lt 11, 3) := by decide +kernel
theorem dJ2_getChar_3b067_10 : decode cJ2_getChar_3b067 10 = .ok (.iload_n 1, 1) := by decide +kernel
theorem dJ2_getChar_3b067_11 : decode cJ2_getChar_3b067 11 = .ok (.aload_n 0, 1) := by decide +kernel
theorem dJ2_getChar_3b067_12 : decode cJ2_getChar_3b067 12 = .ok (.invokestatic 48, 3) := by decide +kernel
theorem dJ2_getChar_3b067_15 : decode cJ2_getChar_3b067 15 = .ok (.if_icmp .lt 13, 3) := by decide +kernel
theorem dJ2_getChar_3b067_18 : decode cJ2_getChar_3b067 18 = .ok (.new 52, 3) := by decide +kernel
theorem dJ2_getChar_3b067_21 : decode cJ2_getChar_3b067 21 = .ok (.dup, 1) := by decide +kernel
theorem dJ2_getChar_3b067_22 : decode cJ2_getChar_3b067 22 = .ok (.ldc 54, 2) := by decide +kernel
theorem dJ2_getChar_3b067_24 : decode cJ2_getChar_3b067 24 = .ok (.invokespecial 56, 3) := by decide +kernel
theorem dJ2_getChar_3b067_27 : decode cJ2_getChar_3b067 27 = .ok (.athrow, 1) := by decide +kernel
theorem dJ2_getChar_3b067_28 : decode cJ2_getChar_3b067 28 = .ok (.iload_n 1, 1) := by decide +kernel
theorem dJ2_getChar_3b067_29 : decode cJ2_getChar_3b067 29 = .ok (.iconst 1, 1) := by decide +kernel
theorem dJ2_getChar_3b067_30 : decode cJ2_getChar_3b067 30 = .ok (.ishl, 1) := by decide +kernel
theorem dJ2_getChar_3b067_31 : decode cJ2_getChar_3b067 31 = .ok (.istore_n 1, 1) := by decide +kernel
theorem dJ2_getChar_3b067_32 : decode cJ2_getChar_3b067 32 = .ok (.aload_n 0, 1) := by decide +kernel
theorem dJ2_getChar_3b067_33 : decode cJ2_getChar_3b067 33 = .ok (.iload_n 1, 1) := by decide +kernel
theorem dJ2_getChar_3b067_34 : decode cJ2_getChar_3b067 34 = .ok (.iinc 1 1, 3) := by decide +kernel
theorem dJ2_getChar_3b067_37 : decode cJ2_getChar_3b067 37 = .ok (.baload, 1) := by decide +kernel
theorem dJ2_getChar_3b067_38 : decode cJ2_getChar_3b067 38 = .ok (.sipush 255, 3) := by decide +kernel
theorem dJ2_getChar_3b067_41 : decode cJ2_getChar_3b067 41 = .ok (.iand, 1) := by decide +kernel
theorem dJ2_getChar_3b067_42 : decode cJ2_getChar_3b067 42 = .ok (.getstatic 59, 3) := by decide +kernel
theorem dJ2_getChar_3b067_45 : decode cJ2_getChar_3b067 45 = .ok (.ishl, 1) := by decide +kernel
theorem dJ2_getChar_3b067_46 : decode cJ2_getChar_3b067 46 = .ok (.aload_n 0, 1) := by decide +kernel
theorem dJ2_getChar_3b067_47 : decode cJ2_getChar_3b067 47 = .ok (.iload_n 1, 1) := by decide +kernel
theorem dJ2_getChar_3b067_48 : decode cJ2_getChar_3b067 48 = .ok (.baload, 1) := by decide +kernel
theorem dJ2_getChar_3b067_49 : decode cJ2_getChar_3b067 49 = .ok (.sipush 255, 3) := by decide +kernel
theorem dJ2_getChar_3b067_52 : decode cJ2_getChar_3b067 52 = .ok (.iand, 1) := by decide +kernel
theorem dJ2_getChar_3b067_53 : decode cJ2_getChar_3b067 53 = .ok (.getstatic 63, 3) := by decide +kernel
theorem dJ2_getChar_3b067_56 : decode cJ2_getChar_3b067 56 = .ok (.ishl, 1) := by decide +kernel
theorem dJ2_getChar_3b067_57 : decode cJ2_getChar_3b067 57 = .ok (.ior, 1) := by decide +kernel
theorem dJ2_getChar_3b067_58 : decode cJ2_getChar_3b067 58 = .ok (.i2c, 1) := by decide +kernel
theorem dJ2_getChar_3b067_59 : decode cJ2_getChar_3b067 59 = .ok (.ireturn, 1) := by decide +kernel
theorem dJ2_length_9d52b_0 : decode cJ2_length_9d52b 0 = .ok (.aload_n 0, 1) := by decide +kernel
theorem dJ2_length_9d52b_1 : decode cJ2_length_9d52b 1 = .ok (.arraylength, 1) := by decide +kernel
theorem dJ2_length_9d52b_2 : decode cJ2_length_9d52b 2 = .ok (.iconst 1, 1) := by decide +kernel
theorem dJ2_length_9d52b_3 : decode cJ2_length_9d52b 3 = .ok (.ishr, 1) := by decide +kernel
theorem dJ2_length_9d52b_4 : decode cJ2_length_9d52b 4 = .ok (.ireturn, 1) := by decide +kernel
theorem dJ2_indexOf_4cfef_0 : decode cJ2_indexOf_4cfef 0 = .ok (.iload_n 2, 1) := by decide +kernel
theorem dJ2_indexOf_4cfef_1 : decode cJ2_indexOf_4cfef 1 = .ok (.iconst 0, 1) := by decide +kernel
theorem dJ2_indexOf_4cfef_2 : decode cJ2_indexOf_4cfef 2 = .ok (.invokestatic 224, 3) := by decide +kernel
theorem dJ2_indexOf_4cfef_5 : decode cJ2_indexOf_4cfef 5 = .ok (.istore_n 2, 1) := by decide +kernel
theorem dJ2_indexOf_4cfef_6 : decode cJ2_indexOf_4cfef 6 = .ok (.iload_n 3, 1) := by decide +kernel
theorem dJ2_indexOf_4cfef_7 : decode cJ2_indexOf_4cfef 7 = .ok (.aload_n 0, 1) := by decide +kernel
theorem dJ2_indexOf_4cfef_8 : decode cJ2_indexOf_4cfef 8 = .ok (.arraylength, 1) := by decide +kernel
theorem dJ2_indexOf_4cfef_9 : decode cJ2_indexOf_4cfef 9 = .ok (.iconst 1, 1) := by decide +kernel
theorem dJ2_indexOf_4cfef_10 : decode cJ2_indexOf_4cfef 10 = .ok (.ishr, 1) := by decide +kernel
theorem dJ2_indexOf_4cfef_11 : decode cJ2_indexOf_4cfef 11 = .ok (.invokestatic 183, 3) := by decide +kernel
theorem dJ2_indexOf_4cfef_14 : decode cJ2_indexOf_4cfef 14 = .ok (.istore_n 3, 1) := by decide +kernel
theorem dJ2_indexOf_4cfef_15 : decode cJ2_indexOf_4cfef 15 = .ok (.iload_n 2, 1) := by decide +kernel
theorem dJ2_indexOf_4cfef_16 : decode cJ2_indexOf_4cfef 16 = .ok (.iload_n 3, 1) := by decide +kernel
theorem dJ2_indexOf_4cfef_17 : decode cJ2_indexOf_4cfef 17 = .ok (.if_icmp .lt 5, 3) := by decide +kernel
theorem dJ2_indexOf_4cfef_20 : decode cJ2_indexOf_4cfef 20 = .ok (.iconst (-1), 1) := by decide +kernel
theorem dJ2_indexOf_4cfef_21 : decode cJ2_indexOf_4cfef 21 = .ok (.ireturn, 1) := by decide +kernel
theorem dJ2_indexOf_4cfef_22 : decode cJ2_indexOf_4cfef 22 = .ok (.iload_n 1, 1) := by decide +kernel
theorem dJ2_indexOf_4cfef_23 : decode cJ2_indexOf_4cfef 23 = .ok (.ldc 227, 2) := by decide +kernel
theorem dJ2_indexOf_4cfef_25 : decode cJ2_indexOf_4cfef 25 = .ok (.if_icmp .ge 11, 3) := by decide +kernel
theorem dJ2_indexOf_4cfef_28 : decode cJ2_indexOf_4cfef 28 = .ok (.aload_n 0, 1) := by decide +kernel
theorem dJ2_indexOf_4cfef_29 : decode cJ2_indexOf_4cfef 29 = .ok (.iload_n 1, 1) := by decide +kernel
theorem dJ2_indexOf_4cfef_30 : decode cJ2_indexOf_4cfef 30 = .ok (.iload_n 2, 1) := by decide +kernel
theorem dJ2_indexOf_4cfef_31 : decode cJ2_indexOf_4cfef 31 = .ok (.iload_n 3, 1) := by decide +kernel
theorem dJ2_indexOf_4cfef_32 : decode cJ2_indexOf_4cfef 32 = .ok (.invokestatic 228, 3) := by decide +kernel
theorem dJ2_indexOf_4cfef_35 : decode cJ2_indexOf_4cfef 35 = .ok (.ireturn, 1) := by decide +kernel
theorem dJ2_indexOf_4cfef_36 : decode cJ2_indexOf_4cfef 36 = .ok (.aload_n 0, 1) := by decide +kernel
theorem dJ2_indexOf_4cfef_37 : decode cJ2_indexOf_4cfef 37 = .ok (.iload_n 1, 1) := by decide +kernel
theorem dJ2_indexOf_4cfef_38 : decode cJ2_indexOf_4cfef 38 = .ok (.iload_n 2, 1) := by decide +kernel
theorem dJ2_indexOf_4cfef_39 : decode cJ2_indexOf_4cfef 39 = .ok (.iload_n 3, 1) := by decide +kernel
theorem dJ2_indexOf_4cfef_40 : decode cJ2_indexOf_4cfef 40 = .ok (.invokestatic 232, 3) := by decide +kernel
theorem dJ2_indexOf_4cfef_43 : decode cJ2_indexOf_4cfef 43 = .ok (.ireturn, 1) := by decide +kernel
theorem dJ2_indexOfChar_4cfef_0 : decode cJ2_indexOfChar_4cfef 0 = .ok (.iload_n 2, 1) := by decide +kernel
theorem dJ2_indexOfChar_4cfef_1 : decode cJ2_indexOfChar_4cfef 1 = .ok (.iload_n 3, 1) := by decide +kernel
theorem dJ2_indexOfChar_4cfef_2 : decode cJ2_indexOfChar_4cfef 2 = .ok (.aload_n 0, 1) := by decide +kernel
theorem dJ2_indexOfChar_4cfef_3 : decode cJ2_indexOfChar_4cfef 3 = .ok (.invokestatic 96, 3) := by decide +kernel
theorem dJ2_indexOfChar_4cfef_6 : decode cJ2_indexOfChar_4cfef 6 = .ok (.aload_n 0, 1) := by decide +kernel
theorem dJ2_indexOfChar_4cfef_7 : decode cJ2_indexOfChar_4cfef 7 = .ok (.iload_n 1, 1) := by decide +kernel
theorem dJ2_indexOfChar_4cfef_8 : decode cJ2_indexOfChar_4cfef 8 = .ok (.iload_n 2, 1) := by decide +kernel
theorem dJ2_indexOfChar_4cfef_9 : decode cJ2_indexOfChar_4cfef 9 = .ok (.iload_n 3, 1) := by decide +kernel
theorem dJ2_indexOfChar_4cfef_10 : decode cJ2_indexOfChar_4cfef 10 = .ok (.invokestatic 244, 3) := by decide +kernel
theorem dJ2_indexOfChar_4cfef_13 : decode cJ2_indexOfChar_4cfef 13 = .ok (.ireturn, 1) := by decide +kernel
theorem dJ2_indexOfCharUnsafe_4cfef_0 : decode cJ2_indexOfCharUnsafe_4cfef 0 = .ok (.iload_n 2, 1) := by decide +kernel
theorem dJ2_indexOfCharUnsafe_4cfef_1 : decode cJ2_indexOfCharUnsafe_4cfef 1 = .ok (.istore 4, 2) := by decide +kernel
theorem dJ2_indexOfCharUnsafe_4cfef_3 : decode cJ2_indexOfCharUnsafe_4cfef 3 = .ok (.iload 4, 2) := by decide +kernel
theorem dJ2_indexOfCharUnsafe_4cfef_5 : decode cJ2_indexOfCharUnsafe_4cfef 5 = .ok (.iload_n 3, 1) := by decide +kernel
theorem dJ2_indexOfCharUnsafe_4cfef_6 : decode cJ2_indexOfCharUnsafe_4cfef 6 = .ok (.if_icmp .ge 22, 3) := by decide +kernel
theorem dJ2_indexOfCharUnsafe_4cfef_9 : decode cJ2_indexOfCharUnsafe_4cfef 9 = .ok (.aload_n 0, 1) := by decide +kernel
theorem dJ2_indexOfCharUnsafe_4cfef_10 : decode cJ2_indexOfCharUnsafe_4cfef 10 = .ok (.iload 4, 2) := by decide +kernel
theorem dJ2_indexOfCharUnsafe_4cfef_12 : decode cJ2_indexOfCharUnsafe_4cfef 12 = .ok (.invokestatic 71, 3) := by decide +kernel
theorem dJ2_indexOfCharUnsafe_4cfef_15 : decode cJ2_indexOfCharUnsafe_4cfef 15 = .ok (.iload_n 1, 1) := by decide +kernel
theorem dJ2_indexOfCharUnsafe_4cfef_16 : decode cJ2_indexOfCharUnsafe_4cfef 16 = .ok (.if_icmp .ne 6, 3) := by decide +kernel
theorem dJ2_indexOfCharUnsafe_4cfef_19 : decode cJ2_indexOfCharUnsafe_4cfef 19 = .ok (.iload 4, 2) := by decide +kernel
theorem dJ2_indexOfCharUnsafe_4cfef_21 : decode cJ2_indexOfCharUnsafe_4cfef 21 = .ok (.ireturn, 1) := by decide +kernel
theorem dJ2_indexOfCharUnsafe_4cfef_22 : decode cJ2_indexOfCharUnsafe_4cfef 22 = .ok (.iinc 4 1, 3) := by decide +kernel
theorem dJ2_indexOfCharUnsafe_4cfef_25 : decode cJ2_indexOfCharUnsafe_4cfef 25 = .ok (.goto (-22), 3) := by decide +kernel
theorem dJ2_indexOfCharUnsafe_4cfef_28 : decode cJ2_indexOfCharUnsafe_4cfef 28 = .ok (.iconst (-1), 1) := by decide +kernel
theorem dJ2_indexOfCharUnsafe_4cfef_29 : decode cJ2_indexOfCharUnsafe_4cfef 29 = .ok (.ireturn, 1) := by decide +kernel
theorem dJ2_indexOfSupplementary_4cfef_0 : decode cJ2_indexOfSupplementary_4cfef 0 = .ok (.iload_n 1, 1) := by decide +kernel
theorem dJ2_indexOfSupplementary_4cfef_1 : decode cJ2_indexOfSupplementary_4cfef 1 = .ok (.invokestatic 164, 3) := by decide +kernel
theorem dJ2_indexOfSupplementary_4cfef_4 : decode cJ2_indexOfSupplementary_4cfef 4 = .ok (.ifCond .eq 65, 3) := by decide +kernel
theorem dJ2_indexOfSupplementary_4cfef_7 : decode cJ2_indexOfSupplementary_4cfef 7 = .ok (.iload_n 1, 1) := by decide +kernel
theorem dJ2_indexOfSupplementary_4cfef_8 : decode cJ2_indexOfSupplementary_4cfef 8 = .ok (.invokestatic 157, 3) := by decide +kernel
theorem dJ2_indexOfSupplementary_4cfef_11 : decode cJ2_indexOfSupplementary_4cfef 11 = .ok (.istore 4, 2) := by decide +kernel
theorem dJ2_indexOfSupplementary_4cfef_13 : decode cJ2_indexOfSupplementary_4cfef 13 = .ok (.iload_n 1, 1) := by decide +kernel
theorem dJ2_indexOfSupplementary_4cfef_14 : decode cJ2_indexOfSupplementary_4cfef 14 = .ok (.invokestatic 161, 3) := by decide +kernel
theorem dJ2_indexOfSupplementary_4cfef_17 : decode cJ2_indexOfSupplementary_4cfef 17 = .ok (.istore 5, 2) := by decide +kernel
theorem dJ2_indexOfSupplementary_4cfef_19 : decode cJ2_indexOfSupplementary_4cfef 19 = .ok (.iload_n 2, 1) := by decide +kernel
theorem dJ2_indexOfSupplementary_4cfef_20 : decode cJ2_indexOfSupplementary_4cfef 20 = .ok (.iload_n 3, 1) := by decide +kernel
theorem dJ2_indexOfSupplementary_4cfef_21 : decode cJ2_indexOfSupplementary_4cfef 21 = .ok (.aload_n 0, 1) := by decide +kernel
theorem dJ2_indexOfSupplementary_4cfef_22 : decode cJ2_indexOfSupplementary_4cfef 22 = .ok (.invokestatic 96, 3) := by decide +kernel
theorem dJ2_indexOfSupplementary_4cfef_25 : decode cJ2_indexOfSupplementary_4cfef 25 = .ok (.iload_n 2, 1) := by decide +kernel
theorem dJ2_indexOfSupplementary_4cfef_26 : decode cJ2_indexOfSupplementary_4cfef 26 = .ok (.istore 6, 2) := by decide +kernel
theorem dJ2_indexOfSupplementary_4cfef_28 : decode cJ2_indexOfSupplementary_4cfef 28 = .ok (.iload 6, 2) := by decide +kernel
theorem dJ2_indexOfSupplementary_4cfef_30 : decode cJ2_indexOfSupplementary_4cfef 30 = .ok (.iload_n 3, 1) := by decide +kernel
theorem dJ2_indexOfSupplementary_4cfef_31 : decode cJ2_indexOfSupplementary_4cfef 31 = .ok (.iconst 1, 1) := by decide +kernel
theorem dJ2_indexOfSupplementary_4cfef_32 : decode cJ2_indexOfSupplementary_4cfef 32 = .ok (.isub, 1) := by decide +kernel
theorem dJ2_indexOfSupplementary_4cfef_33 : decode cJ2_indexOfSupplementary_4cfef 33 = .ok (.if_icmp .ge 36, 3) := by decide +kernel
theorem dJ2_indexOfSupplementary_4cfef_36 : decode cJ2_indexOfSupplementary_4cfef 36 = .ok (.aload_n 0, 1) := by decide +kernel
theorem dJ2_indexOfSupplementary_4cfef_37 : decode cJ2_indexOfSupplementary_4cfef 37 = .ok (.iload 6, 2) := by decide +kernel
theorem dJ2_indexOfSupplementary_4cfef_39 : decode cJ2_indexOfSupplementary_4cfef 39 = .ok (.invokestatic 71, 3) := by decide +kernel
theorem dJ2_indexOfSupplementary_4cfef_42 : decode cJ2_indexOfSupplementary_4cfef 42 = .ok (.iload 4, 2) := by decide +kernel
theorem dJ2_indexOfSupplementary_4cfef_44 : decode cJ2_indexOfSupplementary_4cfef 44 = .ok (.if_icmp .ne 19, 3) := by decide +kernel
theorem dJ2_indexOfSupplementary_4cfef_47 : decode cJ2_indexOfSupplementary_4cfef 47 = .ok (.aload_n 0, 1) := by decide +kernel
theorem dJ2_indexOfSupplementary_4cfef_48 : decode cJ2_indexOfSupplementary_4cfef 48 = .ok (.iload 6, 2) := by decide +kernel
theorem dJ2_indexOfSupplementary_4cfef_50 : decode cJ2_indexOfSupplementary_4cfef 50 = .ok (.iconst 1, 1) := by decide +kernel
theorem dJ2_indexOfSupplementary_4cfef_51 : decode cJ2_indexOfSupplementary_4cfef 51 = .ok (.iadd, 1) := by decide +kernel
theorem dJ2_indexOfSupplementary_4cfef_52 : decode cJ2_indexOfSupplementary_4cfef 52 = .ok (.invokestatic 71, 3) := by decide +kernel
theorem dJ2_indexOfSupplementary_4cfef_55 : decode cJ2_indexOfSupplementary_4cfef 55 = .ok (.iload 5, 2) := by decide +kernel
theorem dJ2_indexOfSupplementary_4cfef_57 : decode cJ2_indexOfSupplementary_4cfef 57 = .ok (.if_icmp .ne 6, 3) := by decide +kernel
theorem dJ2_indexOfSupplementary_4cfef_60 : decode cJ2_indexOfSupplementary_4cfef 60 = .ok (.iload 6, 2) := by decide +kernel
theorem dJ2_indexOfSupplementary_4cfef_62 : decode cJ2_indexOfSupplementary_4cfef 62 = .ok (.ireturn, 1) := by decide +kernel
theorem dJ2_indexOfSupplementary_4cfef_63 : decode cJ2_indexOfSupplementary_4cfef 63 = .ok (.iinc 6 1, 3) := by decide +kernel
theorem dJ2_indexOfSupplementary_4cfef_66 : decode cJ2_indexOfSupplementary_4cfef 66 = .ok (.goto (-38), 3) := by decide +kernel
theorem dJ2_indexOfSupplementary_4cfef_69 : decode cJ2_indexOfSupplementary_4cfef 69 = .ok (.iconst (-1), 1) := by decide +kernel
theorem dJ2_indexOfSupplementary_4cfef_70 : decode cJ2_indexOfSupplementary_4cfef 70 = .ok (.ireturn, 1) := by decide +kernel
theorem dJ2_charAt_3b067_0 : decode cJ2_charAt_3b067 0 = .ok (.iload_n 1, 1) := by decide +kernel
theorem dJ2_charAt_3b067_1 : decode cJ2_charAt_3b067 1 = .ok (.aload_n 0, 1) := by decide +kernel
theorem dJ2_charAt_3b067_2 : decode cJ2_charAt_3b067 2 = .ok (.invokestatic 67, 3) := by decide +kernel
theorem dJ2_charAt_3b067_5 : decode cJ2_charAt_3b067 5 = .ok (.aload_n 0, 1) := by decide +kernel
theorem dJ2_charAt_3b067_6 : decode cJ2_charAt_3b067 6 = .ok (.iload_n 1, 1) := by decide +kernel
theorem dJ2_charAt_3b067_7 : decode cJ2_charAt_3b067 7 = .ok (.invokestatic 71, 3) := by decide +kernel
theorem dJ2_charAt_3b067_10 : decode cJ2_charAt_3b067 10 = .ok (.ireturn, 1) := by decide +kernel
theorem dJ2_checkIndex_2214a_0 : decode cJ2_checkIndex_2214a 0 = .ok (.iload_n 0, 1) := by decide +kernel
theorem dJ2_checkIndex_2214a_1 : decode cJ2_checkIndex_2214a 1 = .ok (.aload_n 1, 1) := by decide +kernel
theorem dJ2_checkIndex_2214a_2 : decode cJ2_checkIndex_2214a 2 = .ok (.invokestatic 48, 3) := by decide +kernel
theorem dJ2_checkIndex_2214a_5 : decode cJ2_checkIndex_2214a 5 = .ok (.invokestatic 414, 3) := by decide +kernel
theorem dJ2_checkIndex_2214a_8 : decode cJ2_checkIndex_2214a 8 = .ok (.return_, 1) := by decide +kernel
theorem dJ2_checkBoundsBeginEnd_d044e_0 : decode cJ2_checkBoundsBeginEnd_d044e 0 = .ok (.iload_n 0, 1) := by decide +kernel
theorem dJ2_checkBoundsBeginEnd_d044e_1 : decode cJ2_checkBoundsBeginEnd_d044e 1 = .ok (.iload_n 1, 1) := by decide +kernel
theorem dJ2_checkBoundsBeginEnd_d044e_2 : decode cJ2_checkBoundsBeginEnd_d044e 2 = .ok (.aload_n 2, 1) := by decide +kernel
theorem dJ2_checkBoundsBeginEnd_d044e_3 : decode cJ2_checkBoundsBeginEnd_d044e 3 = .ok (.invokestatic 48, 3) := by decide +kernel
theorem dJ2_checkBoundsBeginEnd_d044e_6 : decode cJ2_checkBoundsBeginEnd_d044e 6 = .ok (.invokestatic 241, 3) := by decide +kernel
theorem dJ2_checkBoundsBeginEnd_d044e_9 : decode cJ2_checkBoundsBeginEnd_d044e 9 = .ok (.return_, 1) := by decide +kernel
theorem dJ3_checkIndex_8e157_0 : decode cJ3_checkIndex_8e157 0 = .ok (.iload_n 0, 1) := by decide +kernel
theorem dJ3_checkIndex_8e157_1 : decode cJ3_checkIndex_8e157 1 = .ok (.ifCond .lt 8, 3) := by decide +kernel
theorem dJ3_checkIndex_8e157_4 : decode cJ3_checkIndex_8e157 4 = .ok (.iload_n 0, 1) := by decide +kernel
theorem dJ3_checkIndex_8e157_5 : decode cJ3_checkIndex_8e157 5 = .ok (.iload_n 1, 1) := by decide +kernel
theorem dJ3_checkIndex_8e157_6 : decode cJ3_checkIndex_8e157 6 = .ok (.if_icmp .lt 10, 3) := by decide +kernel
theorem dJ3_checkIndex_8e157_9 : decode cJ3_checkIndex_8e157 9 = .ok (.aload_n 2, 1) := by decide +kernel
theorem dJ3_checkIndex_8e157_10 : decode cJ3_checkIndex_8e157 10 = .ok (.iload_n 0, 1) := by decide +kernel
theorem dJ3_checkIndex_8e157_11 : decode cJ3_checkIndex_8e157 11 = .ok (.iload_n 1, 1) := by decide +kernel
theorem dJ3_checkIndex_8e157_12 : decode cJ3_checkIndex_8e157 12 = .ok (.invokestatic 95, 3) := by decide +kernel
theorem dJ3_checkIndex_8e157_15 : decode cJ3_checkIndex_8e157 15 = .ok (.athrow, 1) := by decide +kernel
theorem dJ3_checkIndex_8e157_16 : decode cJ3_checkIndex_8e157 16 = .ok (.iload_n 0, 1) := by decide +kernel
theorem dJ3_checkIndex_8e157_17 : decode cJ3_checkIndex_8e157 17 = .ok (.ireturn, 1) := by decide +kernel
theorem dJ3_checkFromToIndex_8c36e_0 : decode cJ3_checkFromToIndex_8c36e 0 = .ok (.iload_n 0, 1) := by decide +kernel
theorem dJ3_checkFromToIndex_8c36e_1 : decode cJ3_checkFromToIndex_8c36e 1 = .ok (.ifCond .lt 13, 3) := by decide +kernel
theorem dJ3_checkFromToIndex_8c36e_4 : decode cJ3_checkFromToIndex_8c36e 4 = .ok (.iload_n 0, 1) := by decide +kernel
theorem dJ3_checkFromToIndex_8c36e_5 : decode cJ3_checkFromToIndex_8c36e 5 = .ok (.iload_n 1, 1) := by decide +kernel
theorem dJ3_checkFromToIndex_8c36e_6 : decode cJ3_checkFromToIndex_8c36e 6 = .ok (.if_icmp .gt 8, 3) := by decide +kernel
theorem dJ3_checkFromToIndex_8c36e_9 : decode cJ3_checkFromToIndex_8c36e 9 = .ok (.iload_n 1, 1) := by decide +kernel
theorem dJ3_checkFromToIndex_8c36e_10 : decode cJ3_checkFromToIndex_8c36e 10 = .ok (.iload_n 2, 1) := by decide +kernel
theorem dJ3_checkFromToIndex_8c36e_11 : decode cJ3_checkFromToIndex_8c36e 11 = .ok (.if_icmp .le 11, 3) := by decide +kernel
theorem dJ3_checkFromToIndex_8c36e_14 : decode cJ3_checkFromToIndex_8c36e 14 = .ok (.aload_n 3, 1) := by decide +kernel
theorem dJ3_checkFromToIndex_8c36e_15 : decode cJ3_checkFromToIndex_8c36e 15 = .ok (.iload_n 0, 1) := by decide +kernel
theorem dJ3_checkFromToIndex_8c36e_16 : decode cJ3_checkFromToIndex_8c36e 16 = .ok (.iload_n 1, 1) := by decide +kernel
theorem dJ3_checkFromToIndex_8c36e_17 : decode cJ3_checkFromToIndex_8c36e 17 = .ok (.iload_n 2, 1) := by decide +kernel
theorem dJ3_checkFromToIndex_8c36e_18 : decode cJ3_checkFromToIndex_8c36e 18 = .ok (.invokestatic 99, 3) := by decide +kernel
theorem dJ3_checkFromToIndex_8c36e_21 : decode cJ3_checkFromToIndex_8c36e 21 = .ok (.athrow, 1) := by decide +kernel
theorem dJ3_checkFromToIndex_8c36e_22 : decode cJ3_checkFromToIndex_8c36e 22 = .ok (.iload_n 0, 1) := by decide +kernel
theorem dJ3_checkFromToIndex_8c36e_23 : decode cJ3_checkFromToIndex_8c36e 23 = .ok (.ireturn, 1) := by decide +kernel
theorem dL_law_0 : decode cL_law 0 = .ok (.new 7, 3) := by decide +kernel
theorem dL_law_3 : decode cL_law 3 = .ok (.dup, 1) := by decide +kernel
theorem dL_law_4 : decode cL_law 4 = .ok (.invokespecial 9, 3) := by decide +kernel
theorem dL_law_7 : decode cL_law 7 = .ok (.astore_n 1, 1) := by decide +kernel
theorem dL_law_8 : decode cL_law 8 = .ok (.new 10, 3) := by decide +kernel
theorem dL_law_11 : decode cL_law 11 = .ok (.dup, 1) := by decide +kernel
theorem dL_law_12 : decode cL_law 12 = .ok (.invokespecial 12, 3) := by decide +kernel
theorem dL_law_15 : decode cL_law 15 = .ok (.astore_n 2, 1) := by decide +kernel
theorem dL_law_16 : decode cL_law 16 = .ok (.iconst 0, 1) := by decide +kernel
theorem dL_law_17 : decode cL_law 17 = .ok (.istore_n 3, 1) := by decide +kernel
theorem dL_law_18 : decode cL_law 18 = .ok (.iload_n 3, 1) := by decide +kernel
theorem dL_law_19 : decode cL_law 19 = .ok (.aload_n 0, 1) := by decide +kernel
theorem dL_law_20 : decode cL_law 20 = .ok (.arraylength, 1) := by decide +kernel
theorem dL_law_21 : decode cL_law 21 = .ok (.bipush 6, 2) := by decide +kernel
theorem dL_law_23 : decode cL_law 23 = .ok (.isub, 1) := by decide +kernel
theorem dL_law_24 : decode cL_law 24 = .ok (.if_icmp .gt 1618, 3) := by decide +kernel
theorem dL_law_27 : decode cL_law 27 = .ok (.aload_n 0, 1) := by decide +kernel
theorem dL_law_28 : decode cL_law 28 = .ok (.iload_n 3, 1) := by decide +kernel
theorem dL_law_29 : decode cL_law 29 = .ok (.iaload, 1) := by decide +kernel
theorem dL_law_30 : decode cL_law 30 = .ok (.bipush 63, 2) := by decide +kernel
theorem dL_law_32 : decode cL_law 32 = .ok (.iand, 1) := by decide +kernel
theorem dL_law_33 : decode cL_law 33 = .ok (.tableswitch 1603 0 43 #[191, 234, 267, 300, 333, 376, 409, 452, 485, 528, 561, 594, 627, 650, 673, 696, 719, 752, 785, 838, 881, 924, 967, 1000, 1013, 1036, 1079, 1102, 1115, 1148, 1171, 1214, 1257, 1280, 1303, 1366, 1409, 1442, 1475, 1508, 1531, 1554, 1567, 1580], 191) := by decide +kernel
theorem dL_law_224 : decode cL_law 224 = .ok (.aload_n 1, 1) := by decide +kernel
theorem dL_law_225 : decode cL_law 225 = .ok (.aload_n 0, 1) := by decide +kernel
theorem dL_law_226 : decode cL_law 226 = .ok (.iload_n 3, 1) := by decide +kernel
theorem dL_law_227 : decode cL_law 227 = .ok (.iconst 1, 1) := by decide +kernel
theorem dL_law_228 : decode cL_law 228 = .ok (.iadd, 1) := by decide +kernel
theorem dL_law_229 : decode cL_law 229 = .ok (.iaload, 1) := by decide +kernel
theorem dL_law_230 : decode cL_law 230 = .ok (.aload_n 0, 1) := by decide +kernel
theorem dL_law_231 : decode cL_law 231 = .ok (.iload_n 3, 1) := by decide +kernel
theorem dL_law_232 : decode cL_law 232 = .ok (.iconst 2, 1) := by decide +kernel
theorem dL_law_233 : decode cL_law 233 = .ok (.iadd, 1) := by decide +kernel
theorem dL_law_234 : decode cL_law 234 = .ok (.iaload, 1) := by decide +kernel
theorem dL_law_235 : decode cL_law 235 = .ok (.aload_n 0, 1) := by decide +kernel
theorem dL_law_236 : decode cL_law 236 = .ok (.iload_n 3, 1) := by decide +kernel
theorem dL_law_237 : decode cL_law 237 = .ok (.iconst 3, 1) := by decide +kernel
theorem dL_law_238 : decode cL_law 238 = .ok (.iadd, 1) := by decide +kernel
theorem dL_law_239 : decode cL_law 239 = .ok (.iaload, 1) := by decide +kernel
theorem dL_law_240 : decode cL_law 240 = .ok (.invokevirtual 13, 3) := by decide +kernel
theorem dL_law_243 : decode cL_law 243 = .ok (.aload_n 2, 1) := by decide +kernel
theorem dL_law_244 : decode cL_law 244 = .ok (.aload_n 0, 1) := by decide +kernel
theorem dL_law_245 : decode cL_law 245 = .ok (.iload_n 3, 1) := by decide +kernel
theorem dL_law_246 : decode cL_law 246 = .ok (.iconst 1, 1) := by decide +kernel
theorem dL_law_247 : decode cL_law 247 = .ok (.iadd, 1) := by decide +kernel
theorem dL_law_248 : decode cL_law 248 = .ok (.iaload, 1) := by decide +kernel
theorem dL_law_249 : decode cL_law 249 = .ok (.aload_n 0, 1) := by decide +kernel
theorem dL_law_250 : decode cL_law 250 = .ok (.iload_n 3, 1) := by decide +kernel
theorem dL_law_251 : decode cL_law 251 = .ok (.iconst 2, 1) := by decide +kernel
theorem dL_law_252 : decode cL_law 252 = .ok (.iadd, 1) := by decide +kernel
theorem dL_law_253 : decode cL_law 253 = .ok (.iaload, 1) := by decide +kernel
theorem dL_law_254 : decode cL_law 254 = .ok (.aload_n 0, 1) := by decide +kernel
theorem dL_law_255 : decode cL_law 255 = .ok (.iload_n 3, 1) := by decide +kernel
theorem dL_law_256 : decode cL_law 256 = .ok (.iconst 3, 1) := by decide +kernel
theorem dL_law_257 : decode cL_law 257 = .ok (.iadd, 1) := by decide +kernel
theorem dL_law_258 : decode cL_law 258 = .ok (.iaload, 1) := by decide +kernel
theorem dL_law_259 : decode cL_law 259 = .ok (.invokevirtual 17, 3) := by decide +kernel
theorem dL_law_262 : decode cL_law 262 = .ok (.if_icmp .eq 1374, 3) := by decide +kernel
theorem dL_law_265 : decode cL_law 265 = .ok (.iconst 0, 1) := by decide +kernel
theorem dL_law_266 : decode cL_law 266 = .ok (.ireturn, 1) := by decide +kernel
theorem dL_law_267 : decode cL_law 267 = .ok (.aload_n 1, 1) := by decide +kernel
theorem dL_law_268 : decode cL_law 268 = .ok (.aload_n 0, 1) := by decide +kernel
theorem dL_law_269 : decode cL_law 269 = .ok (.iload_n 3, 1) := by decide +kernel
theorem dL_law_270 : decode cL_law 270 = .ok (.iconst 1, 1) := by decide +kernel
theorem dL_law_271 : decode cL_law 271 = .ok (.iadd, 1) := by decide +kernel
end
section
theorem dL_law_272 : decode cL_law 272 = .ok (.iaload, 1) := by decide +kernel
theorem dL_law_273 : decode cL_law 273 = .ok (.aload_n 0, 1) := by decide +kernel
theorem dL_law_274 : decode cL_law 274 = .ok (.iload_n 3, 1) := by decide +kernel
theorem dL_law_275 : decode cL_law 275 = .ok (.iconst 2, 1) := by decide +kernel
theorem dL_law_276 : decode cL_law 276 = .ok (.iadd, 1) := by decide +kernel
theorem dL_law_277 : decode cL_law 277 = .ok (.iaload, 1) := by decide +kernel
theorem dL_law_278 : decode cL_law 278 = .ok (.invokevirtual 18, 3) := by decide +kernel
theorem dL_law_281 : decode cL_law 281 = .ok (.aload_n 2, 1) := by decide +kernel
theorem dL_law_282 : decode cL_law 282 = .ok (.aload_n 0, 1) := by decide +kernel
theorem dL_law_283 : decode cL_law 283 = .ok (.iload_n 3, 1) := by decide +kernel
theorem dL_law_284 : decode cL_law 284 = .ok (.iconst 1, 1) := by decide +kernel
theorem dL_law_285 : decode cL_law 285 = .ok (.iadd, 1) := by decide +kernel
theorem dL_law_286 : decode cL_law 286 = .ok (.iaload, 1) := by decide +kernel
theorem dL_law_287 : decode cL_law 287 = .ok (.aload_n 0, 1) := by decide +kernel
theorem dL_law_288 : decode cL_law 288 = .ok (.iload_n 3, 1) := by decide +kernel
theorem dL_law_289 : decode cL_law 289 = .ok (.iconst 2, 1) := by decide +kernel
theorem dL_law_290 : decode cL_law 290 = .ok (.iadd, 1) := by decide +kernel
theorem dL_law_291 : decode cL_law 291 = .ok (.iaload, 1) := by decide +kernel
theorem dL_law_292 : decode cL_law 292 = .ok (.invokevirtual 22, 3) := by decide +kernel
theorem dL_law_295 : decode cL_law 295 = .ok (.if_icmp .eq 1341, 3) := by decide +kernel
theorem dL_law_298 : decode cL_law 298 = .ok (.iconst 0, 1) := by decide +kernel
theorem dL_law_299 : decode cL_law 299 = .ok (.ireturn, 1) := by decide +kernel
theorem dL_law_300 : decode cL_law 300 = .ok (.aload_n 1, 1) := by decide +kernel
theorem dL_law_301 : decode cL_law 301 = .ok (.aload_n 0, 1) := by decide +kernel
theorem dL_law_302 : decode cL_law 302 = .ok (.iload_n 3, 1) := by decide +kernel
theorem dL_law_303 : decode cL_law 303 = .ok (.iconst 1, 1) := by decide +kernel
theorem dL_law_304 : decode cL_law 304 = .ok (.iadd, 1) := by decide +kernel
theorem dL_law_305 : decode cL_law 305 = .ok (.iaload, 1) := by decide +kernel
theorem dL_law_306 : decode cL_law 306 = .ok (.aload_n 0, 1) := by decide +kernel
theorem dL_law_307 : decode cL_law 307 = .ok (.iload_n 3, 1) := by decide +kernel
theorem dL_law_308 : decode cL_law 308 = .ok (.iconst 2, 1) := by decide +kernel
theorem dL_law_309 : decode cL_law 309 = .ok (.iadd, 1) := by decide +kernel
theorem dL_law_310 : decode cL_law 310 = .ok (.iaload, 1) := by decide +kernel
theorem dL_law_311 : decode cL_law 311 = .ok (.invokevirtual 23, 3) := by decide +kernel
theorem dL_law_314 : decode cL_law 314 = .ok (.aload_n 2, 1) := by decide +kernel
theorem dL_law_315 : decode cL_law 315 = .ok (.aload_n 0, 1) := by decide +kernel
theorem dL_law_316 : decode cL_law 316 = .ok (.iload_n 3, 1) := by decide +kernel
theorem dL_law_317 : decode cL_law 317 = .ok (.iconst 1, 1) := by decide +kernel
theorem dL_law_318 : decode cL_law 318 = .ok (.iadd, 1) := by decide +kernel
theorem dL_law_319 : decode cL_law 319 = .ok (.iaload, 1) := by decide +kernel
theorem dL_law_320 : decode cL_law 320 = .ok (.aload_n 0, 1) := by decide +kernel
theorem dL_law_321 : decode cL_law 321 = .ok (.iload_n 3, 1) := by decide +kernel
theorem dL_law_322 : decode cL_law 322 = .ok (.iconst 2, 1) := by decide +kernel
theorem dL_law_323 : decode cL_law 323 = .ok (.iadd, 1) := by decide +kernel
theorem dL_law_324 : decode cL_law 324 = .ok (.iaload, 1) := by decide +kernel
theorem dL_law_325 : decode cL_law 325 = .ok (.invokevirtual 26, 3) := by decide +kernel
theorem dL_law_328 : decode cL_law 328 = .ok (.if_icmp .eq 1308, 3) := by decide +kernel
theorem dL_law_331 : decode cL_law 331 = .ok (.iconst 0, 1) := by decide +kernel
theorem dL_law_332 : decode cL_law 332 = .ok (.ireturn, 1) := by decide +kernel
theorem dL_law_333 : decode cL_law 333 = .ok (.aload_n 1, 1) := by decide +kernel
theorem dL_law_334 : decode cL_law 334 = .ok (.aload_n 0, 1) := by decide +kernel
theorem dL_law_335 : decode cL_law 335 = .ok (.iload_n 3, 1) := by decide +kernel
theorem dL_law_336 : decode cL_law 336 = .ok (.iconst 1, 1) := by decide +kernel
theorem dL_law_337 : decode cL_law 337 = .ok (.iadd, 1) := by decide +kernel
theorem dL_law_338 : decode cL_law 338 = .ok (.iaload, 1) := by decide +kernel
theorem dL_law_339 : decode cL_law 339 = .ok (.aload_n 0, 1) := by decide +kernel
theorem dL_law_340 : decode cL_law 340 = .ok (.iload_n 3, 1) := by decide +kernel
theorem dL_law_341 : decode cL_law 341 = .ok (.iconst 2, 1) := by decide +kernel
theorem dL_law_342 : decode cL_law 342 = .ok (.iadd, 1) := by decide +kernel
theorem dL_law_343 : decode cL_law 343 = .ok (.iaload, 1) := by decide +kernel
theorem dL_law_344 : decode cL_law 344 = .ok (.invokevirtual 27, 3) := by decide +kernel
theorem dL_law_347 : decode cL_law 347 = .ok (.aload_n 2, 1) := by decide +kernel
theorem dL_law_348 : decode cL_law 348 = .ok (.aload_n 0, 1) := by decide +kernel
theorem dL_law_349 : decode cL_law 349 = .ok (.iload_n 3, 1) := by decide +kernel
theorem dL_law_350 : decode cL_law 350 = .ok (.iconst 1, 1) := by decide +kernel
theorem dL_law_351 : decode cL_law 351 = .ok (.iadd, 1) := by decide +kernel
theorem dL_law_352 : decode cL_law 352 = .ok (.iaload, 1) := by decide +kernel
theorem dL_law_353 : decode cL_law 353 = .ok (.aload_n 0, 1) := by decide +kernel
theorem dL_law_354 : decode cL_law 354 = .ok (.iload_n 3, 1) := by decide +kernel
theorem dL_law_355 : decode cL_law 355 = .ok (.iconst 2, 1) := by decide +kernel
theorem dL_law_356 : decode cL_law 356 = .ok (.iadd, 1) := by decide +kernel
theorem dL_law_357 : decode cL_law 357 = .ok (.iaload, 1) := by decide +kernel
theorem dL_law_358 : decode cL_law 358 = .ok (.invokevirtual 30, 3) := by decide +kernel
theorem dL_law_361 : decode cL_law 361 = .ok (.if_icmp .eq 1275, 3) := by decide +kernel
theorem dL_law_364 : decode cL_law 364 = .ok (.iconst 0, 1) := by decide +kernel
theorem dL_law_365 : decode cL_law 365 = .ok (.ireturn, 1) := by decide +kernel
theorem dL_law_366 : decode cL_law 366 = .ok (.aload_n 1, 1) := by decide +kernel
theorem dL_law_367 : decode cL_law 367 = .ok (.aload_n 0, 1) := by decide +kernel
theorem dL_law_368 : decode cL_law 368 = .ok (.iload_n 3, 1) := by decide +kernel
theorem dL_law_369 : decode cL_law 369 = .ok (.iconst 1, 1) := by decide +kernel
theorem dL_law_370 : decode cL_law 370 = .ok (.iadd, 1) := by decide +kernel
theorem dL_law_371 : decode cL_law 371 = .ok (.iaload, 1) := by decide +kernel
theorem dL_law_372 : decode cL_law 372 = .ok (.aload_n 0, 1) := by decide +kernel
theorem dL_law_373 : decode cL_law 373 = .ok (.iload_n 3, 1) := by decide +kernel
theorem dL_law_374 : decode cL_law 374 = .ok (.iconst 2, 1) := by decide +kernel
theorem dL_law_375 : decode cL_law 375 = .ok (.iadd, 1) := by decide +kernel
theorem dL_law_376 : decode cL_law 376 = .ok (.iaload, 1) := by decide +kernel
theorem dL_law_377 : decode cL_law 377 = .ok (.aload_n 0, 1) := by decide +kernel
theorem dL_law_378 : decode cL_law 378 = .ok (.iload_n 3, 1) := by decide +kernel
theorem dL_law_379 : decode cL_law 379 = .ok (.iconst 3, 1) := by decide +kernel
theorem dL_law_380 : decode cL_law 380 = .ok (.iadd, 1) := by decide +kernel
theorem dL_law_381 : decode cL_law 381 = .ok (.iaload, 1) := by decide +kernel
theorem dL_law_382 : decode cL_law 382 = .ok (.invokevirtual 31, 3) := by decide +kernel
theorem dL_law_385 : decode cL_law 385 = .ok (.aload_n 2, 1) := by decide +kernel
theorem dL_law_386 : decode cL_law 386 = .ok (.aload_n 0, 1) := by decide +kernel
theorem dL_law_387 : decode cL_law 387 = .ok (.iload_n 3, 1) := by decide +kernel
theorem dL_law_388 : decode cL_law 388 = .ok (.iconst 1, 1) := by decide +kernel
theorem dL_law_389 : decode cL_law 389 = .ok (.iadd, 1) := by decide +kernel
theorem dL_law_390 : decode cL_law 390 = .ok (.iaload, 1) := by decide +kernel
theorem dL_law_391 : decode cL_law 391 = .ok (.aload_n 0, 1) := by decide +kernel
theorem dL_law_392 : decode cL_law 392 = .ok (.iload_n 3, 1) := by decide +kernel
theorem dL_law_393 : decode cL_law 393 = .ok (.iconst 2, 1) := by decide +kernel
theorem dL_law_394 : decode cL_law 394 = .ok (.iadd, 1) := by decide +kernel
theorem dL_law_395 : decode cL_law 395 = .ok (.iaload, 1) := by decide +kernel
theorem dL_law_396 : decode cL_law 396 = .ok (.aload_n 0, 1) := by decide +kernel
theorem dL_law_397 : decode cL_law 397 = .ok (.iload_n 3, 1) := by decide +kernel
theorem dL_law_398 : decode cL_law 398 = .ok (.iconst 3, 1) := by decide +kernel
theorem dL_law_399 : decode cL_law 399 = .ok (.iadd, 1) := by decide +kernel
theorem dL_law_400 : decode cL_law 400 = .ok (.iaload, 1) := by decide +kernel
theorem dL_law_401 : decode cL_law 401 = .ok (.invokevirtual 34, 3) := by decide +kernel
theorem dL_law_404 : decode cL_law 404 = .ok (.if_icmp .eq 1232, 3) := by decide +kernel
theorem dL_law_407 : decode cL_law 407 = .ok (.iconst 0, 1) := by decide +kernel
theorem dL_law_408 : decode cL_law 408 = .ok (.ireturn, 1) := by decide +kernel
theorem dL_law_409 : decode cL_law 409 = .ok (.aload_n 1, 1) := by decide +kernel
theorem dL_law_410 : decode cL_law 410 = .ok (.aload_n 0, 1) := by decide +kernel
theorem dL_law_411 : decode cL_law 411 = .ok (.iload_n 3, 1) := by decide +kernel
theorem dL_law_412 : decode cL_law 412 = .ok (.iconst 1, 1) := by decide +kernel
theorem dL_law_413 : decode cL_law 413 = .ok (.iadd, 1) := by decide +kernel
theorem dL_law_414 : decode cL_law 414 = .ok (.iaload, 1) := by decide +kernel
theorem dL_law_415 : decode cL_law 415 = .ok (.aload_n 0, 1) := by decide +kernel
theorem dL_law_416 : decode cL_law 416 = .ok (.iload_n 3, 1) := by decide +kernel
theorem dL_law_417 : decode cL_law 417 = .ok (.iconst 2, 1) := by decide +kernel
theorem dL_law_418 : decode cL_law 418 = .ok (.iadd, 1) := by decide +kernel
theorem dL_law_419 : decode cL_law 419 = .ok (.iaload, 1) := by decide +kernel
theorem dL_law_420 : decode cL_law 420 = .ok (.invokevirtual 35, 3) := by decide +kernel
theorem dL_law_423 : decode cL_law 423 = .ok (.aload_n 2, 1) := by decide +kernel
theorem dL_law_424 : decode cL_law 424 = .ok (.aload_n 0, 1) := by decide +kernel
theorem dL_law_425 : decode cL_law 425 = .ok (.iload_n 3, 1) := by decide +kernel
theorem dL_law_426 : decode cL_law 426 = .ok (.iconst 1, 1) := by decide +kernel
theorem dL_law_427 : decode cL_law 427 = .ok (.iadd, 1) := by decide +kernel
theorem dL_law_428 : decode cL_law 428 = .ok (.iaload, 1) := by decide +kernel
theorem dL_law_429 : decode cL_law 429 = .ok (.aload_n 0, 1) := by decide +kernel
theorem dL_law_430 : decode cL_law 430 = .ok (.iload_n 3, 1) := by decide +kernel
theorem dL_law_431 : decode cL_law 431 = .ok (.iconst 2, 1) := by decide +kernel
theorem dL_law_432 : decode cL_law 432 = .ok (.iadd, 1) := by decide +kernel
theorem dL_law_433 : decode cL_law 433 = .ok (.iaload, 1) := by decide +kernel
theorem dL_law_434 : decode cL_law 434 = .ok (.invokevirtual 38, 3) := by decide +kernel
theorem dL_law_437 : decode cL_law 437 = .ok (.if_icmp .eq 1199, 3) := by decide +kernel
theorem dL_law_440 : decode cL_law 440 = .ok (.iconst 0, 1) := by decide +kernel
theorem dL_law_441 : decode cL_law 441 = .ok (.ireturn, 1) := by decide +kernel
theorem dL_law_442 : decode cL_law 442 = .ok (.aload_n 1, 1) := by decide +kernel
theorem dL_law_443 : decode cL_law 443 = .ok (.aload_n 0, 1) := by decide +kernel
theorem dL_law_444 : decode cL_law 444 = .ok (.iload_n 3, 1) := by decide +kernel
theorem dL_law_445 : decode cL_law 445 = .ok (.iconst 1, 1) := by decide +kernel
theorem dL_law_446 : decode cL_law 446 = .ok (.iadd, 1) := by decide +kernel
theorem dL_law_447 : decode cL_law 447 = .ok (.iaload, 1) := by decide +kernel
theorem dL_law_448 : decode cL_law 448 = .ok (.aload_n 0, 1) := by decide +kernel
theorem dL_law_449 : decode cL_law 449 = .ok (.iload_n 3, 1) := by decide +kernel
theorem dL_law_450 : decode cL_law 450 = .ok (.iconst 2, 1) := by decide +kernel
theorem dL_law_451 : decode cL_law 451 = .ok (.iadd, 1) := by decide +kernel
theorem dL_law_452 : decode cL_law 452 = .ok (.iaload, 1) := by decide +kernel
theorem dL_law_453 : decode cL_law 453 = .ok (.aload_n 0, 1) := by decide +kernel
theorem dL_law_454 : decode cL_law 454 = .ok (.iload_n 3, 1) := by decide +kernel
theorem dL_law_455 : decode cL_law 455 = .ok (.iconst 3, 1) := by decide +kernel
theorem dL_law_456 : decode cL_law 456 = .ok (.iadd, 1) := by decide +kernel
theorem dL_law_457 : decode cL_law 457 = .ok (.iaload, 1) := by decide +kernel
theorem dL_law_458 : decode cL_law 458 = .ok (.invokevirtual 39, 3) := by decide +kernel
theorem dL_law_461 : decode cL_law 461 = .ok (.aload_n 2, 1) := by decide +kernel
theorem dL_law_462 : decode cL_law 462 = .ok (.aload_n 0, 1) := by decide +kernel
theorem dL_law_463 : decode cL_law 463 = .ok (.iload_n 3, 1) := by decide +kernel
theorem dL_law_464 : decode cL_law 464 = .ok (.iconst 1, 1) := by decide +kernel
theorem dL_law_465 : decode cL_law 465 = .ok (.iadd, 1) := by decide +kernel
theorem dL_law_466 : decode cL_law 466 = .ok (.iaload, 1) := by decide +kernel
theorem dL_law_467 : decode cL_law 467 = .ok (.aload_n 0, 1) := by decide +kernel
theorem dL_law_468 : decode cL_law 468 = .ok (.iload_n 3, 1) := by decide +kernel
theorem dL_law_469 : decode cL_law 469 = .ok (.iconst 2, 1) := by decide +kernel
theorem dL_law_470 : decode cL_law 470 = .ok (.iadd, 1) := by decide +kernel
theorem dL_law_471 : decode cL_law 471 = .ok (.iaload, 1) := by decide +kernel
theorem dL_law_472 : decode cL_law 472 = .ok (.aload_n 0, 1) := by decide +kernel
theorem dL_law_473 : decode cL_law 473 = .ok (.iload_n 3, 1) := by decide +kernel
theorem dL_law_474 : decode cL_law 474 = .ok (.iconst 3, 1) := by decide +kernel
theorem dL_law_475 : decode cL_law 475 = .ok (.iadd, 1) := by decide +kernel
theorem dL_law_476 : decode cL_law 476 = .ok (.iaload, 1) := by decide +kernel
theorem dL_law_477 : decode cL_law 477 = .ok (.invokevirtual 42, 3) := by decide +kernel
theorem dL_law_480 : decode cL_law 480 = .ok (.if_icmp .eq 1156, 3) := by decide +kernel
theorem dL_law_483 : decode cL_law 483 = .ok (.iconst 0, 1) := by decide +kernel
theorem dL_law_484 : decode cL_law 484 = .ok (.ireturn, 1) := by decide +kernel
theorem dL_law_485 : decode cL_law 485 = .ok (.aload_n 1, 1) := by decide +kernel
theorem dL_law_486 : decode cL_law 486 = .ok (.aload_n 0, 1) := by decide +kernel
theorem dL_law_487 : decode cL_law 487 = .ok (.iload_n 3, 1) := by decide +kernel
theorem dL_law_488 : decode cL_law 488 = .ok (.iconst 1, 1) := by decide +kernel
theorem dL_law_489 : decode cL_law 489 = .ok (.iadd, 1) := by decide +kernel
theorem dL_law_490 : decode cL_law 490 = .ok (.iaload, 1) := by decide +kernel
theorem dL_law_491 : decode cL_law 491 = .ok (.aload_n 0, 1) := by decide +kernel
theorem dL_law_492 : decode cL_law 492 = .ok (.iload_n 3, 1) := by decide +kernel
theorem dL_law_493 : decode cL_law 493 = .ok (.iconst 2, 1) := by decide +kernel
theorem dL_law_494 : decode cL_law 494 = .ok (.iadd, 1) := by decide +kernel
theorem dL_law_495 : decode cL_law 495 = .ok (.iaload, 1) := by decide +kernel
theorem dL_law_496 : decode cL_law 496 = .ok (.invokevirtual 43, 3) := by decide +kernel
theorem dL_law_499 : decode cL_law 499 = .ok (.aload_n 2, 1) := by decide +kernel
theorem dL_law_500 : decode cL_law 500 = .ok (.aload_n 0, 1) := by decide +kernel
theorem dL_law_501 : decode cL_law 501 = .ok (.iload_n 3, 1) := by decide +kernel
theorem dL_law_502 : decode cL_law 502 = .ok (.iconst 1, 1) := by decide +kernel
theorem dL_law_503 : decode cL_law 503 = .ok (.iadd, 1) := by decide +kernel
theorem dL_law_504 : decode cL_law 504 = .ok (.iaload, 1) := by decide +kernel
theorem dL_law_505 : decode cL_law 505 = .ok (.aload_n 0, 1) := by decide +kernel
theorem dL_law_506 : decode cL_law 506 = .ok (.iload_n 3, 1) := by decide +kernel
theorem dL_law_507 : decode cL_law 507 = .ok (.iconst 2, 1) := by decide +kernel
theorem dL_law_508 : decode cL_law 508 = .ok (.iadd, 1) := by decide +kernel
theorem dL_law_509 : decode cL_law 509 = .ok (.iaload, 1) := by decide +kernel
theorem dL_law_510 : decode cL_law 510 = .ok (.invokevirtual 46, 3) := by decide +kernel
theorem dL_law_513 : decode cL_law 513 = .ok (.if_icmp .eq 1123, 3) := by decide +kernel
theorem dL_law_516 : decode cL_law 516 = .ok (.iconst 0, 1) := by decide +kernel
theorem dL_law_517 : decode cL_law 517 = .ok (.ireturn, 1) := by decide +kernel
theorem dL_law_518 : decode cL_law 518 = .ok (.aload_n 1, 1) := by decide +kernel
theorem dL_law_519 : decode cL_law 519 = .ok (.aload_n 0, 1) := by decide +kernel
theorem dL_law_520 : decode cL_law 520 = .ok (.iload_n 3, 1) := by decide +kernel
theorem dL_law_521 : decode cL_law 521 = .ok (.iconst 1, 1) := by decide +kernel
theorem dL_law_522 : decode cL_law 522 = .ok (.iadd, 1) := by decide +kernel
theorem dL_law_523 : decode cL_law 523 = .ok (.iaload, 1) := by decide +kernel
theorem dL_law_524 : decode cL_law 524 = .ok (.aload_n 0, 1) := by decide +kernel
theorem dL_law_525 : decode cL_law 525 = .ok (.iload_n 3, 1) := by decide +kernel
theorem dL_law_526 : decode cL_law 526 = .ok (.iconst 2, 1) := by decide +kernel
theorem dL_law_527 : decode cL_law 527 = .ok (.iadd, 1) := by decide +kernel
theorem dL_law_528 : decode cL_law 528 = .ok (.iaload, 1) := by decide +kernel
theorem dL_law_529 : decode cL_law 529 = .ok (.aload_n 0, 1) := by decide +kernel
theorem dL_law_530 : decode cL_law 530 = .ok (.iload_n 3, 1) := by decide +kernel
theorem dL_law_531 : decode cL_law 531 = .ok (.iconst 3, 1) := by decide +kernel
theorem dL_law_532 : decode cL_law 532 = .ok (.iadd, 1) := by decide +kernel
theorem dL_law_533 : decode cL_law 533 = .ok (.iaload, 1) := by decide +kernel
theorem dL_law_534 : decode cL_law 534 = .ok (.invokevirtual 47, 3) := by decide +kernel
theorem dL_law_537 : decode cL_law 537 = .ok (.aload_n 2, 1) := by decide +kernel
theorem dL_law_538 : decode cL_law 538 = .ok (.aload_n 0, 1) := by decide +kernel
theorem dL_law_539 : decode cL_law 539 = .ok (.iload_n 3, 1) := by decide +kernel
theorem dL_law_540 : decode cL_law 540 = .ok (.iconst 1, 1) := by decide +kernel
theorem dL_law_541 : decode cL_law 541 = .ok (.iadd, 1) := by decide +kernel
theorem dL_law_542 : decode cL_law 542 = .ok (.iaload, 1) := by decide +kernel
theorem dL_law_543 : decode cL_law 543 = .ok (.aload_n 0, 1) := by decide +kernel
theorem dL_law_544 : decode cL_law 544 = .ok (.iload_n 3, 1) := by decide +kernel
theorem dL_law_545 : decode cL_law 545 = .ok (.iconst 2, 1) := by decide +kernel
theorem dL_law_546 : decode cL_law 546 = .ok (.iadd, 1) := by decide +kernel
theorem dL_law_547 : decode cL_law 547 = .ok (.iaload, 1) := by decide +kernel
theorem dL_law_548 : decode cL_law 548 = .ok (.aload_n 0, 1) := by decide +kernel
theorem dL_law_549 : decode cL_law 549 = .ok (.iload_n 3, 1) := by decide +kernel
theorem dL_law_550 : decode cL_law 550 = .ok (.iconst 3, 1) := by decide +kernel
theorem dL_law_551 : decode cL_law 551 = .ok (.iadd, 1) := by decide +kernel
theorem dL_law_552 : decode cL_law 552 = .ok (.iaload, 1) := by decide +kernel
theorem dL_law_553 : decode cL_law 553 = .ok (.invokevirtual 50, 3) := by decide +kernel
theorem dL_law_556 : decode cL_law 556 = .ok (.if_icmp .eq 1080, 3) := by decide +kernel
theorem dL_law_559 : decode cL_law 559 = .ok (.iconst 0, 1) := by decide +kernel
theorem dL_law_560 : decode cL_law 560 = .ok (.ireturn, 1) := by decide +kernel
theorem dL_law_561 : decode cL_law 561 = .ok (.aload_n 1, 1) := by decide +kernel
theorem dL_law_562 : decode cL_law 562 = .ok (.aload_n 0, 1) := by decide +kernel
theorem dL_law_563 : decode cL_law 563 = .ok (.iload_n 3, 1) := by decide +kernel
theorem dL_law_564 : decode cL_law 564 = .ok (.iconst 1, 1) := by decide +kernel
theorem dL_law_565 : decode cL_law 565 = .ok (.iadd, 1) := by decide +kernel
theorem dL_law_566 : decode cL_law 566 = .ok (.iaload, 1) := by decide +kernel
theorem dL_law_567 : decode cL_law 567 = .ok (.aload_n 0, 1) := by decide +kernel
theorem dL_law_568 : decode cL_law 568 = .ok (.iload_n 3, 1) := by decide +kernel
theorem dL_law_569 : decode cL_law 569 = .ok (.iconst 2, 1) := by decide +kernel
theorem dL_law_570 : decode cL_law 570 = .ok (.iadd, 1) := by decide +kernel
theorem dL_law_571 : decode cL_law 571 = .ok (.iaload, 1) := by decide +kernel
theorem dL_law_572 : decode cL_law 572 = .ok (.invokevirtual 51, 3) := by decide +kernel
theorem dL_law_575 : decode cL_law 575 = .ok (.aload_n 2, 1) := by decide +kernel
theorem dL_law_576 : decode cL_law 576 = .ok (.aload_n 0, 1) := by decide +kernel
theorem dL_law_577 : decode cL_law 577 = .ok (.iload_n 3, 1) := by decide +kernel
theorem dL_law_578 : decode cL_law 578 = .ok (.iconst 1, 1) := by decide +kernel
theorem dL_law_579 : decode cL_law 579 = .ok (.iadd, 1) := by decide +kernel
theorem dL_law_580 : decode cL_law 580 = .ok (.iaload, 1) := by decide +kernel
theorem dL_law_581 : decode cL_law 581 = .ok (.aload_n 0, 1) := by decide +kernel
theorem dL_law_582 : decode cL_law 582 = .ok (.iload_n 3, 1) := by decide +kernel
theorem dL_law_583 : decode cL_law 583 = .ok (.iconst 2, 1) := by decide +kernel
theorem dL_law_584 : decode cL_law 584 = .ok (.iadd, 1) := by decide +kernel
theorem dL_law_585 : decode cL_law 585 = .ok (.iaload, 1) := by decide +kernel
theorem dL_law_586 : decode cL_law 586 = .ok (.invokevirtual 54, 3) := by decide +kernel
theorem dL_law_589 : decode cL_law 589 = .ok (.if_icmp .eq 1047, 3) := by decide +kernel
theorem dL_law_592 : decode cL_law 592 = .ok (.iconst 0, 1) := by decide +kernel
theorem dL_law_593 : decode cL_law 593 = .ok (.ireturn, 1) := by decide +kernel
theorem dL_law_594 : decode cL_law 594 = .ok (.aload_n 1, 1) := by decide +kernel
theorem dL_law_595 : decode cL_law 595 = .ok (.aload_n 0, 1) := by decide +kernel
theorem dL_law_596 : decode cL_law 596 = .ok (.iload_n 3, 1) := by decide +kernel
theorem dL_law_597 : decode cL_law 597 = .ok (.iconst 1, 1) := by decide +kernel
theorem dL_law_598 : decode cL_law 598 = .ok (.iadd, 1) := by decide +kernel
theorem dL_law_599 : decode cL_law 599 = .ok (.iaload, 1) := by decide +kernel
theorem dL_law_600 : decode cL_law 600 = .ok (.aload_n 0, 1) := by decide +kernel
theorem dL_law_601 : decode cL_law 601 = .ok (.iload_n 3, 1) := by decide +kernel
theorem dL_law_602 : decode cL_law 602 = .ok (.iconst 2, 1) := by decide +kernel
theorem dL_law_603 : decode cL_law 603 = .ok (.iadd, 1) := by decide +kernel
theorem dL_law_604 : decode cL_law 604 = .ok (.iaload, 1) := by decide +kernel
theorem dL_law_605 : decode cL_law 605 = .ok (.invokevirtual 55, 3) := by decide +kernel
theorem dL_law_608 : decode cL_law 608 = .ok (.aload_n 2, 1) := by decide +kernel
theorem dL_law_609 : decode cL_law 609 = .ok (.aload_n 0, 1) := by decide +kernel
theorem dL_law_610 : decode cL_law 610 = .ok (.iload_n 3, 1) := by decide +kernel
theorem dL_law_611 : decode cL_law 611 = .ok (.iconst 1, 1) := by decide +kernel
theorem dL_law_612 : decode cL_law 612 = .ok (.iadd, 1) := by decide +kernel
theorem dL_law_613 : decode cL_law 613 = .ok (.iaload, 1) := by decide +kernel
theorem dL_law_614 : decode cL_law 614 = .ok (.aload_n 0, 1) := by decide +kernel
theorem dL_law_615 : decode cL_law 615 = .ok (.iload_n 3, 1) := by decide +kernel
theorem dL_law_616 : decode cL_law 616 = .ok (.iconst 2, 1) := by decide +kernel
theorem dL_law_617 : decode cL_law 617 = .ok (.iadd, 1) := by decide +kernel
theorem dL_law_618 : decode cL_law 618 = .ok (.iaload, 1) := by decide +kernel
theorem dL_law_619 : decode cL_law 619 = .ok (.invokevirtual 58, 3) := by decide +kernel
theorem dL_law_622 : decode cL_law 622 = .ok (.if_icmp .eq 1014, 3) := by decide +kernel
theorem dL_law_625 : decode cL_law 625 = .ok (.iconst 0, 1) := by decide +kernel
theorem dL_law_626 : decode cL_law 626 = .ok (.ireturn, 1) := by decide +kernel
theorem dL_law_627 : decode cL_law 627 = .ok (.aload_n 1, 1) := by decide +kernel
theorem dL_law_628 : decode cL_law 628 = .ok (.aload_n 0, 1) := by decide +kernel
theorem dL_law_629 : decode cL_law 629 = .ok (.iload_n 3, 1) := by decide +kernel
theorem dL_law_630 : decode cL_law 630 = .ok (.iconst 1, 1) := by decide +kernel
theorem dL_law_631 : decode cL_law 631 = .ok (.iadd, 1) := by decide +kernel
theorem dL_law_632 : decode cL_law 632 = .ok (.iaload, 1) := by decide +kernel
theorem dL_law_633 : decode cL_law 633 = .ok (.aload_n 0, 1) := by decide +kernel
theorem dL_law_634 : decode cL_law 634 = .ok (.iload_n 3, 1) := by decide +kernel
theorem dL_law_635 : decode cL_law 635 = .ok (.iconst 2, 1) := by decide +kernel
theorem dL_law_636 : decode cL_law 636 = .ok (.iadd, 1) := by decide +kernel
theorem dL_law_637 : decode cL_law 637 = .ok (.iaload, 1) := by decide +kernel
theorem dL_law_638 : decode cL_law 638 = .ok (.invokevirtual 59, 3) := by decide +kernel
theorem dL_law_641 : decode cL_law 641 = .ok (.aload_n 2, 1) := by decide +kernel
theorem dL_law_642 : decode cL_law 642 = .ok (.aload_n 0, 1) := by decide +kernel
theorem dL_law_643 : decode cL_law 643 = .ok (.iload_n 3, 1) := by decide +kernel
theorem dL_law_644 : decode cL_law 644 = .ok (.iconst 1, 1) := by decide +kernel
theorem dL_law_645 : decode cL_law 645 = .ok (.iadd, 1) := by decide +kernel
theorem dL_law_646 : decode cL_law 646 = .ok (.iaload, 1) := by decide +kernel
theorem dL_law_647 : decode cL_law 647 = .ok (.aload_n 0, 1) := by decide +kernel
theorem dL_law_648 : decode cL_law 648 = .ok (.iload_n 3, 1) := by decide +kernel
theorem dL_law_649 : decode cL_law 649 = .ok (.iconst 2, 1) := by decide +kernel
theorem dL_law_650 : decode cL_law 650 = .ok (.iadd, 1) := by decide +kernel
theorem dL_law_651 : decode cL_law 651 = .ok (.iaload, 1) := by decide +kernel
theorem dL_law_652 : decode cL_law 652 = .ok (.invokevirtual 62, 3) := by decide +kernel
theorem dL_law_655 : decode cL_law 655 = .ok (.if_icmp .eq 981, 3) := by decide +kernel
theorem dL_law_658 : decode cL_law 658 = .ok (.iconst 0, 1) := by decide +kernel
theorem dL_law_659 : decode cL_law 659 = .ok (.ireturn, 1) := by decide +kernel
theorem dL_law_660 : decode cL_law 660 = .ok (.aload_n 1, 1) := by decide +kernel
theorem dL_law_661 : decode cL_law 661 = .ok (.aload_n 0, 1) := by decide +kernel
theorem dL_law_662 : decode cL_law 662 = .ok (.iload_n 3, 1) := by decide +kernel
theorem dL_law_663 : decode cL_law 663 = .ok (.iconst 1, 1) := by decide +kernel
theorem dL_law_664 : decode cL_law 664 = .ok (.iadd, 1) := by decide +kernel
theorem dL_law_665 : decode cL_law 665 = .ok (.iaload, 1) := by decide +kernel
theorem dL_law_666 : decode cL_law 666 = .ok (.invokevirtual 63, 3) := by decide +kernel
theorem dL_law_669 : decode cL_law 669 = .ok (.aload_n 2, 1) := by decide +kernel
theorem dL_law_670 : decode cL_law 670 = .ok (.aload_n 0, 1) := by decide +kernel
theorem dL_law_671 : decode cL_law 671 = .ok (.iload_n 3, 1) := by decide +kernel
theorem dL_law_672 : decode cL_law 672 = .ok (.iconst 1, 1) := by decide +kernel
theorem dL_law_673 : decode cL_law 673 = .ok (.iadd, 1) := by decide +kernel
theorem dL_law_674 : decode cL_law 674 = .ok (.iaload, 1) := by decide +kernel
theorem dL_law_675 : decode cL_law 675 = .ok (.invokevirtual 67, 3) := by decide +kernel
theorem dL_law_678 : decode cL_law 678 = .ok (.if_icmp .eq 958, 3) := by decide +kernel
theorem dL_law_681 : decode cL_law 681 = .ok (.iconst 0, 1) := by decide +kernel
theorem dL_law_682 : decode cL_law 682 = .ok (.ireturn, 1) := by decide +kernel
theorem dL_law_683 : decode cL_law 683 = .ok (.aload_n 1, 1) := by decide +kernel
theorem dL_law_684 : decode cL_law 684 = .ok (.aload_n 0, 1) := by decide +kernel
theorem dL_law_685 : decode cL_law 685 = .ok (.iload_n 3, 1) := by decide +kernel
theorem dL_law_686 : decode cL_law 686 = .ok (.iconst 1, 1) := by decide +kernel
theorem dL_law_687 : decode cL_law 687 = .ok (.iadd, 1) := by decide +kernel
theorem dL_law_688 : decode cL_law 688 = .ok (.iaload, 1) := by decide +kernel
theorem dL_law_689 : decode cL_law 689 = .ok (.invokevirtual 68, 3) := by decide +kernel
theorem dL_law_692 : decode cL_law 692 = .ok (.aload_n 2, 1) := by decide +kernel
theorem dL_law_693 : decode cL_law 693 = .ok (.aload_n 0, 1) := by decide +kernel
theorem dL_law_694 : decode cL_law 694 = .ok (.iload_n 3, 1) := by decide +kernel
theorem dL_law_695 : decode cL_law 695 = .ok (.iconst 1, 1) := by decide +kernel
theorem dL_law_696 : decode cL_law 696 = .ok (.iadd, 1) := by decide +kernel
theorem dL_law_697 : decode cL_law 697 = .ok (.iaload, 1) := by decide +kernel
theorem dL_law_698 : decode cL_law 698 = .ok (.invokevirtual 71, 3) := by decide +kernel
theorem dL_law_701 : decode cL_law 701 = .ok (.if_icmp .eq 935, 3) := by decide +kernel
theorem dL_law_704 : decode cL_law 704 = .ok (.iconst 0, 1) := by decide +kernel
theorem dL_law_705 : decode cL_law 705 = .ok (.ireturn, 1) := by decide +kernel
theorem dL_law_706 : decode cL_law 706 = .ok (.aload_n 1, 1) := by decide +kernel
theorem dL_law_707 : decode cL_law 707 = .ok (.aload_n 0, 1) := by decide +kernel
theorem dL_law_708 : decode cL_law 708 = .ok (.iload_n 3, 1) := by decide +kernel
theorem dL_law_709 : decode cL_law 709 = .ok (.iconst 1, 1) := by decide +kernel
theorem dL_law_710 : decode cL_law 710 = .ok (.iadd, 1) := by decide +kernel
theorem dL_law_711 : decode cL_law 711 = .ok (.iaload, 1) := by decide +kernel
theorem dL_law_712 : decode cL_law 712 = .ok (.invokevirtual 72, 3) := by decide +kernel
theorem dL_law_715 : decode cL_law 715 = .ok (.aload_n 2, 1) := by decide +kernel
theorem dL_law_716 : decode cL_law 716 = .ok (.aload_n 0, 1) := by decide +kernel
theorem dL_law_717 : decode cL_law 717 = .ok (.iload_n 3, 1) := by decide +kernel
theorem dL_law_718 : decode cL_law 718 = .ok (.iconst 1, 1) := by decide +kernel
theorem dL_law_719 : decode cL_law 719 = .ok (.iadd, 1) := by decide +kernel
theorem dL_law_720 : decode cL_law 720 = .ok (.iaload, 1) := by decide +kernel
theorem dL_law_721 : decode cL_law 721 = .ok (.invokevirtual 75, 3) := by decide +kernel
theorem dL_law_724 : decode cL_law 724 = .ok (.if_icmp .eq 912, 3) := by decide +kernel
theorem dL_law_727 : decode cL_law 727 = .ok (.iconst 0, 1) := by decide +kernel
theorem dL_law_728 : decode cL_law 728 = .ok (.ireturn, 1) := by decide +kernel
theorem dL_law_729 : decode cL_law 729 = .ok (.aload_n 1, 1) := by decide +kernel
theorem dL_law_730 : decode cL_law 730 = .ok (.aload_n 0, 1) := by decide +kernel
theorem dL_law_731 : decode cL_law 731 = .ok (.iload_n 3, 1) := by decide +kernel
theorem dL_law_732 : decode cL_law 732 = .ok (.iconst 1, 1) := by decide +kernel
theorem dL_law_733 : decode cL_law 733 = .ok (.iadd, 1) := by decide +kernel
theorem dL_law_734 : decode cL_law 734 = .ok (.iaload, 1) := by decide +kernel
theorem dL_law_735 : decode cL_law 735 = .ok (.invokevirtual 76, 3) := by decide +kernel
theorem dL_law_738 : decode cL_law 738 = .ok (.aload_n 2, 1) := by decide +kernel
theorem dL_law_739 : decode cL_law 739 = .ok (.aload_n 0, 1) := by decide +kernel
theorem dL_law_740 : decode cL_law 740 = .ok (.iload_n 3, 1) := by decide +kernel
theorem dL_law_741 : decode cL_law 741 = .ok (.iconst 1, 1) := by decide +kernel
theorem dL_law_742 : decode cL_law 742 = .ok (.iadd, 1) := by decide +kernel
theorem dL_law_743 : decode cL_law 743 = .ok (.iaload, 1) := by decide +kernel
theorem dL_law_744 : decode cL_law 744 = .ok (.invokevirtual 79, 3) := by decide +kernel
theorem dL_law_747 : decode cL_law 747 = .ok (.if_icmp .eq 889, 3) := by decide +kernel
theorem dL_law_750 : decode cL_law 750 = .ok (.iconst 0, 1) := by decide +kernel
theorem dL_law_751 : decode cL_law 751 = .ok (.ireturn, 1) := by decide +kernel
theorem dL_law_752 : decode cL_law 752 = .ok (.aload_n 1, 1) := by decide +kernel
theorem dL_law_753 : decode cL_law 753 = .ok (.aload_n 0, 1) := by decide +kernel
theorem dL_law_754 : decode cL_law 754 = .ok (.iload_n 3, 1) := by decide +kernel
theorem dL_law_755 : decode cL_law 755 = .ok (.iconst 1, 1) := by decide +kernel
theorem dL_law_756 : decode cL_law 756 = .ok (.iadd, 1) := by decide +kernel
theorem dL_law_757 : decode cL_law 757 = .ok (.iaload, 1) := by decide +kernel
theorem dL_law_758 : decode cL_law 758 = .ok (.aload_n 0, 1) := by decide +kernel
theorem dL_law_759 : decode cL_law 759 = .ok (.iload_n 3, 1) := by decide +kernel
theorem dL_law_760 : decode cL_law 760 = .ok (.iconst 2, 1) := by decide +kernel
theorem dL_law_761 : decode cL_law 761 = .ok (.iadd, 1) := by decide +kernel
theorem dL_law_762 : decode cL_law 762 = .ok (.iaload, 1) := by decide +kernel
theorem dL_law_763 : decode cL_law 763 = .ok (.invokevirtual 80, 3) := by decide +kernel
theorem dL_law_766 : decode cL_law 766 = .ok (.aload_n 2, 1) := by decide +kernel
theorem dL_law_767 : decode cL_law 767 = .ok (.aload_n 0, 1) := by decide +kernel
theorem dL_law_768 : decode cL_law 768 = .ok (.iload_n 3, 1) := by decide +kernel
theorem dL_law_769 : decode cL_law 769 = .ok (.iconst 1, 1) := by decide +kernel
theorem dL_law_770 : decode cL_law 770 = .ok (.iadd, 1) := by decide +kernel
theorem dL_law_771 : decode cL_law 771 = .ok (.iaload, 1) := by decide +kernel
theorem dL_law_772 : decode cL_law 772 = .ok (.aload_n 0, 1) := by decide +kernel
theorem dL_law_773 : decode cL_law 773 = .ok (.iload_n 3, 1) := by decide +kernel
theorem dL_law_774 : decode cL_law 774 = .ok (.iconst 2, 1) := by decide +kernel
theorem dL_law_775 : decode cL_law 775 = .ok (.iadd, 1) := by decide +kernel
theorem dL_law_776 : decode cL_law 776 = .ok (.iaload, 1) := by decide +kernel
theorem dL_law_777 : decode cL_law 777 = .ok (.invokevirtual 83, 3) := by decide +kernel
theorem dL_law_780 : decode cL_law 780 = .ok (.if_icmp .eq 856, 3) := by decide +kernel
theorem dL_law_783 : decode cL_law 783 = .ok (.iconst 0, 1) := by decide +kernel
theorem dL_law_784 : decode cL_law 784 = .ok (.ireturn, 1) := by decide +kernel
theorem dL_law_785 : decode cL_law 785 = .ok (.aload_n 1, 1) := by decide +kernel
theorem dL_law_786 : decode cL_law 786 = .ok (.aload_n 0, 1) := by decide +kernel
theorem dL_law_787 : decode cL_law 787 = .ok (.iload_n 3, 1) := by decide +kernel
theorem dL_law_788 : decode cL_law 788 = .ok (.iconst 1, 1) := by decide +kernel
theorem dL_law_789 : decode cL_law 789 = .ok (.iadd, 1) := by decide +kernel
theorem dL_law_790 : decode cL_law 790 = .ok (.iaload, 1) := by decide +kernel
theorem dL_law_791 : decode cL_law 791 = .ok (.aload_n 0, 1) := by decide +kernel
theorem dL_law_792 : decode cL_law 792 = .ok (.iload_n 3, 1) := by decide +kernel
theorem dL_law_793 : decode cL_law 793 = .ok (.iconst 2, 1) := by decide +kernel
theorem dL_law_794 : decode cL_law 794 = .ok (.iadd, 1) := by decide +kernel
theorem dL_law_795 : decode cL_law 795 = .ok (.iaload, 1) := by decide +kernel
theorem dL_law_796 : decode cL_law 796 = .ok (.invokevirtual 84, 3) := by decide +kernel
theorem dL_law_799 : decode cL_law 799 = .ok (.aload_n 2, 1) := by decide +kernel
theorem dL_law_800 : decode cL_law 800 = .ok (.aload_n 0, 1) := by decide +kernel
theorem dL_law_801 : decode cL_law 801 = .ok (.iload_n 3, 1) := by decide +kernel
theorem dL_law_802 : decode cL_law 802 = .ok (.iconst 1, 1) := by decide +kernel
theorem dL_law_803 : decode cL_law 803 = .ok (.iadd, 1) := by decide +kernel
theorem dL_law_804 : decode cL_law 804 = .ok (.iaload, 1) := by decide +kernel
theorem dL_law_805 : decode cL_law 805 = .ok (.aload_n 0, 1) := by decide +kernel
theorem dL_law_806 : decode cL_law 806 = .ok (.iload_n 3, 1) := by decide +kernel
theorem dL_law_807 : decode cL_law 807 = .ok (.iconst 2, 1) := by decide +kernel
theorem dL_law_808 : decode cL_law 808 = .ok (.iadd, 1) := by decide +kernel
theorem dL_law_809 : decode cL_law 809 = .ok (.iaload, 1) := by decide +kernel
theorem dL_law_810 : decode cL_law 810 = .ok (.invokevirtual 87, 3) := by decide +kernel
theorem dL_law_813 : decode cL_law 813 = .ok (.if_icmp .eq 823, 3) := by decide +kernel
theorem dL_law_816 : decode cL_law 816 = .ok (.iconst 0, 1) := by decide +kernel
theorem dL_law_817 : decode cL_law 817 = .ok (.ireturn, 1) := by decide +kernel
theorem dL_law_818 : decode cL_law 818 = .ok (.aload_n 1, 1) := by decide +kernel
theorem dL_law_819 : decode cL_law 819 = .ok (.aload_n 0, 1) := by decide +kernel
theorem dL_law_820 : decode cL_law 820 = .ok (.iload_n 3, 1) := by decide +kernel
theorem dL_law_821 : decode cL_law 821 = .ok (.iconst 1, 1) := by decide +kernel
theorem dL_law_822 : decode cL_law 822 = .ok (.iadd, 1) := by decide +kernel
theorem dL_law_823 : decode cL_law 823 = .ok (.iaload, 1) := by decide +kernel
theorem dL_law_824 : decode cL_law 824 = .ok (.aload_n 0, 1) := by decide +kernel
theorem dL_law_825 : decode cL_law 825 = .ok (.iload_n 3, 1) := by decide +kernel
theorem dL_law_826 : decode cL_law 826 = .ok (.iconst 2, 1) := by decide +kernel
theorem dL_law_827 : decode cL_law 827 = .ok (.iadd, 1) := by decide +kernel
theorem dL_law_828 : decode cL_law 828 = .ok (.iaload, 1) := by decide +kernel
theorem dL_law_829 : decode cL_law 829 = .ok (.aload_n 0, 1) := by decide +kernel
theorem dL_law_830 : decode cL_law 830 = .ok (.iload_n 3, 1) := by decide +kernel
theorem dL_law_831 : decode cL_law 831 = .ok (.iconst 3, 1) := by decide +kernel
theorem dL_law_832 : decode cL_law 832 = .ok (.iadd, 1) := by decide +kernel
theorem dL_law_833 : decode cL_law 833 = .ok (.iaload, 1) := by decide +kernel
theorem dL_law_834 : decode cL_law 834 = .ok (.aload_n 0, 1) := by decide +kernel
theorem dL_law_835 : decode cL_law 835 = .ok (.iload_n 3, 1) := by decide +kernel
theorem dL_law_836 : decode cL_law 836 = .ok (.iconst 4, 1) := by decide +kernel
theorem dL_law_837 : decode cL_law 837 = .ok (.iadd, 1) := by decide +kernel
theorem dL_law_838 : decode cL_law 838 = .ok (.iaload, 1) := by decide +kernel
theorem dL_law_839 : decode cL_law 839 = .ok (.invokevirtual 88, 3) := by decide +kernel
theorem dL_law_842 : decode cL_law 842 = .ok (.aload_n 2, 1) := by decide +kernel
theorem dL_law_843 : decode cL_law 843 = .ok (.aload_n 0, 1) := by decide +kernel
theorem dL_law_844 : decode cL_law 844 = .ok (.iload_n 3, 1) := by decide +kernel
theorem dL_law_845 : decode cL_law 845 = .ok (.iconst 1, 1) := by decide +kernel
theorem dL_law_846 : decode cL_law 846 = .ok (.iadd, 1) := by decide +kernel
theorem dL_law_847 : decode cL_law 847 = .ok (.iaload, 1) := by decide +kernel
theorem dL_law_848 : decode cL_law 848 = .ok (.aload_n 0, 1) := by decide +kernel
theorem dL_law_849 : decode cL_law 849 = .ok (.iload_n 3, 1) := by decide +kernel
theorem dL_law_850 : decode cL_law 850 = .ok (.iconst 2, 1) := by decide +kernel
theorem dL_law_851 : decode cL_law 851 = .ok (.iadd, 1) := by decide +kernel
theorem dL_law_852 : decode cL_law 852 = .ok (.iaload, 1) := by decide +kernel
theorem dL_law_853 : decode cL_law 853 = .ok (.aload_n 0, 1) := by decide +kernel
theorem dL_law_854 : decode cL_law 854 = .ok (.iload_n 3, 1) := by decide +kernel
theorem dL_law_855 : decode cL_law 855 = .ok (.iconst 3, 1) := by decide +kernel
theorem dL_law_856 : decode cL_law 856 = .ok (.iadd, 1) := by decide +kernel
theorem dL_law_857 : decode cL_law 857 = .ok (.iaload, 1) := by decide +kernel
theorem dL_law_858 : decode cL_law 858 = .ok (.aload_n 0, 1) := by decide +kernel
theorem dL_law_859 : decode cL_law 859 = .ok (.iload_n 3, 1) := by decide +kernel
theorem dL_law_860 : decode cL_law 860 = .ok (.iconst 4, 1) := by decide +kernel
theorem dL_law_861 : decode cL_law 861 = .ok (.iadd, 1) := by decide +kernel
theorem dL_law_862 : decode cL_law 862 = .ok (.iaload, 1) := by decide +kernel
theorem dL_law_863 : decode cL_law 863 = .ok (.invokevirtual 92, 3) := by decide +kernel
theorem dL_law_866 : decode cL_law 866 = .ok (.if_icmp .eq 770, 3) := by decide +kernel
theorem dL_law_869 : decode cL_law 869 = .ok (.iconst 0, 1) := by decide +kernel
theorem dL_law_870 : decode cL_law 870 = .ok (.ireturn, 1) := by decide +kernel
theorem dL_law_871 : decode cL_law 871 = .ok (.aload_n 1, 1) := by decide +kernel
theorem dL_law_872 : decode cL_law 872 = .ok (.aload_n 0, 1) := by decide +kernel
theorem dL_law_873 : decode cL_law 873 = .ok (.iload_n 3, 1) := by decide +kernel
theorem dL_law_874 : decode cL_law 874 = .ok (.iconst 1, 1) := by decide +kernel
theorem dL_law_875 : decode cL_law 875 = .ok (.iadd, 1) := by decide +kernel
theorem dL_law_876 : decode cL_law 876 = .ok (.iaload, 1) := by decide +kernel
theorem dL_law_877 : decode cL_law 877 = .ok (.aload_n 0, 1) := by decide +kernel
theorem dL_law_878 : decode cL_law 878 = .ok (.iload_n 3, 1) := by decide +kernel
theorem dL_law_879 : decode cL_law 879 = .ok (.iconst 2, 1) := by decide +kernel
theorem dL_law_880 : decode cL_law 880 = .ok (.iadd, 1) := by decide +kernel
theorem dL_law_881 : decode cL_law 881 = .ok (.iaload, 1) := by decide +kernel
theorem dL_law_882 : decode cL_law 882 = .ok (.aload_n 0, 1) := by decide +kernel
theorem dL_law_883 : decode cL_law 883 = .ok (.iload_n 3, 1) := by decide +kernel
theorem dL_law_884 : decode cL_law 884 = .ok (.iconst 3, 1) := by decide +kernel
theorem dL_law_885 : decode cL_law 885 = .ok (.iadd, 1) := by decide +kernel
theorem dL_law_886 : decode cL_law 886 = .ok (.iaload, 1) := by decide +kernel
theorem dL_law_887 : decode cL_law 887 = .ok (.invokevirtual 93, 3) := by decide +kernel
theorem dL_law_890 : decode cL_law 890 = .ok (.aload_n 2, 1) := by decide +kernel
theorem dL_law_891 : decode cL_law 891 = .ok (.aload_n 0, 1) := by decide +kernel
theorem dL_law_892 : decode cL_law 892 = .ok (.iload_n 3, 1) := by decide +kernel
theorem dL_law_893 : decode cL_law 893 = .ok (.iconst 1, 1) := by decide +kernel
theorem dL_law_894 : decode cL_law 894 = .ok (.iadd, 1) := by decide +kernel
theorem dL_law_895 : decode cL_law 895 = .ok (.iaload, 1) := by decide +kernel
theorem dL_law_896 : decode cL_law 896 = .ok (.aload_n 0, 1) := by decide +kernel
theorem dL_law_897 : decode cL_law 897 = .ok (.iload_n 3, 1) := by decide +kernel
theorem dL_law_898 : decode cL_law 898 = .ok (.iconst 2, 1) := by decide +kernel
theorem dL_law_899 : decode cL_law 899 = .ok (.iadd, 1) := by decide +kernel
theorem dL_law_900 : decode cL_law 900 = .ok (.iaload, 1) := by decide +kernel
theorem dL_law_901 : decode cL_law 901 = .ok (.aload_n 0, 1) := by decide +kernel
theorem dL_law_902 : decode cL_law 902 = .ok (.iload_n 3, 1) := by decide +kernel
theorem dL_law_903 : decode cL_law 903 = .ok (.iconst 3, 1) := by decide +kernel
theorem dL_law_904 : decode cL_law 904 = .ok (.iadd, 1) := by decide +kernel
theorem dL_law_905 : decode cL_law 905 = .ok (.iaload, 1) := by decide +kernel
theorem dL_law_906 : decode cL_law 906 = .ok (.invokevirtual 96, 3) := by decide +kernel
theorem dL_law_909 : decode cL_law 909 = .ok (.if_icmp .eq 727, 3) := by decide +kernel
theorem dL_law_912 : decode cL_law 912 = .ok (.iconst 0, 1) := by decide +kernel
theorem dL_law_913 : decode cL_law 913 = .ok (.ireturn, 1) := by decide +kernel
theorem dL_law_914 : decode cL_law 914 = .ok (.aload_n 1, 1) := by decide +kernel
theorem dL_law_915 : decode cL_law 915 = .ok (.aload_n 0, 1) := by decide +kernel
theorem dL_law_916 : decode cL_law 916 = .ok (.iload_n 3, 1) := by decide +kernel
theorem dL_law_917 : decode cL_law 917 = .ok (.iconst 1, 1) := by decide +kernel
theorem dL_law_918 : decode cL_law 918 = .ok (.iadd, 1) := by decide +kernel
theorem dL_law_919 : decode cL_law 919 = .ok (.iaload, 1) := by decide +kernel
theorem dL_law_920 : decode cL_law 920 = .ok (.aload_n 0, 1) := by decide +kernel
theorem dL_law_921 : decode cL_law 921 = .ok (.iload_n 3, 1) := by decide +kernel
theorem dL_law_922 : decode cL_law 922 = .ok (.iconst 2, 1) := by decide +kernel
theorem dL_law_923 : decode cL_law 923 = .ok (.iadd, 1) := by decide +kernel
theorem dL_law_924 : decode cL_law 924 = .ok (.iaload, 1) := by decide +kernel
theorem dL_law_925 : decode cL_law 925 = .ok (.aload_n 0, 1) := by decide +kernel
theorem dL_law_926 : decode cL_law 926 = .ok (.iload_n 3, 1) := by decide +kernel
theorem dL_law_927 : decode cL_law 927 = .ok (.iconst 3, 1) := by decide +kernel
theorem dL_law_928 : decode cL_law 928 = .ok (.iadd, 1) := by decide +kernel
theorem dL_law_929 : decode cL_law 929 = .ok (.iaload, 1) := by decide +kernel
theorem dL_law_930 : decode cL_law 930 = .ok (.invokevirtual 97, 3) := by decide +kernel
theorem dL_law_933 : decode cL_law 933 = .ok (.aload_n 2, 1) := by decide +kernel
theorem dL_law_934 : decode cL_law 934 = .ok (.aload_n 0, 1) := by decide +kernel
theorem dL_law_935 : decode cL_law 935 = .ok (.iload_n 3, 1) := by decide +kernel
theorem dL_law_936 : decode cL_law 936 = .ok (.iconst 1, 1) := by decide +kernel
theorem dL_law_937 : decode cL_law 937 = .ok (.iadd, 1) := by decide +kernel
theorem dL_law_938 : decode cL_law 938 = .ok (.iaload, 1) := by decide +kernel
theorem dL_law_939 : decode cL_law 939 = .ok (.aload_n 0, 1) := by decide +kernel
theorem dL_law_940 : decode cL_law 940 = .ok (.iload_n 3, 1) := by decide +kernel
theorem dL_law_941 : decode cL_law 941 = .ok (.iconst 2, 1) := by decide +kernel
theorem dL_law_942 : decode cL_law 942 = .ok (.iadd, 1) := by decide +kernel
theorem dL_law_943 : decode cL_law 943 = .ok (.iaload, 1) := by decide +kernel
theorem dL_law_944 : decode cL_law 944 = .ok (.aload_n 0, 1) := by decide +kernel
theorem dL_law_945 : decode cL_law 945 = .ok (.iload_n 3, 1) := by decide +kernel
theorem dL_law_946 : decode cL_law 946 = .ok (.iconst 3, 1) := by decide +kernel
theorem dL_law_947 : decode cL_law 947 = .ok (.iadd, 1) := by decide +kernel
theorem dL_law_948 : decode cL_law 948 = .ok (.iaload, 1) := by decide +kernel
theorem dL_law_949 : decode cL_law 949 = .ok (.invokevirtual 100, 3) := by decide +kernel
theorem dL_law_952 : decode cL_law 952 = .ok (.if_icmp .eq 684, 3) := by decide +kernel
theorem dL_law_955 : decode cL_law 955 = .ok (.iconst 0, 1) := by decide +kernel
theorem dL_law_956 : decode cL_law 956 = .ok (.ireturn, 1) := by decide +kernel
theorem dL_law_957 : decode cL_law 957 = .ok (.aload_n 1, 1) := by decide +kernel
theorem dL_law_958 : decode cL_law 958 = .ok (.aload_n 0, 1) := by decide +kernel
theorem dL_law_959 : decode cL_law 959 = .ok (.iload_n 3, 1) := by decide +kernel
theorem dL_law_960 : decode cL_law 960 = .ok (.iconst 1, 1) := by decide +kernel
theorem dL_law_961 : decode cL_law 961 = .ok (.iadd, 1) := by decide +kernel
theorem dL_law_962 : decode cL_law 962 = .ok (.iaload, 1) := by decide +kernel
theorem dL_law_963 : decode cL_law 963 = .ok (.aload_n 0, 1) := by decide +kernel
theorem dL_law_964 : decode cL_law 964 = .ok (.iload_n 3, 1) := by decide +kernel
theorem dL_law_965 : decode cL_law 965 = .ok (.iconst 2, 1) := by decide +kernel
theorem dL_law_966 : decode cL_law 966 = .ok (.iadd, 1) := by decide +kernel
theorem dL_law_967 : decode cL_law 967 = .ok (.iaload, 1) := by decide +kernel
theorem dL_law_968 : decode cL_law 968 = .ok (.aload_n 0, 1) := by decide +kernel
theorem dL_law_969 : decode cL_law 969 = .ok (.iload_n 3, 1) := by decide +kernel
theorem dL_law_970 : decode cL_law 970 = .ok (.iconst 3, 1) := by decide +kernel
theorem dL_law_971 : decode cL_law 971 = .ok (.iadd, 1) := by decide +kernel
theorem dL_law_972 : decode cL_law 972 = .ok (.iaload, 1) := by decide +kernel
theorem dL_law_973 : decode cL_law 973 = .ok (.invokevirtual 101, 3) := by decide +kernel
theorem dL_law_976 : decode cL_law 976 = .ok (.aload_n 2, 1) := by decide +kernel
theorem dL_law_977 : decode cL_law 977 = .ok (.aload_n 0, 1) := by decide +kernel
theorem dL_law_978 : decode cL_law 978 = .ok (.iload_n 3, 1) := by decide +kernel
theorem dL_law_979 : decode cL_law 979 = .ok (.iconst 1, 1) := by decide +kernel
theorem dL_law_980 : decode cL_law 980 = .ok (.iadd, 1) := by decide +kernel
theorem dL_law_981 : decode cL_law 981 = .ok (.iaload, 1) := by decide +kernel
theorem dL_law_982 : decode cL_law 982 = .ok (.aload_n 0, 1) := by decide +kernel
theorem dL_law_983 : decode cL_law 983 = .ok (.iload_n 3, 1) := by decide +kernel
theorem dL_law_984 : decode cL_law 984 = .ok (.iconst 2, 1) := by decide +kernel
theorem dL_law_985 : decode cL_law 985 = .ok (.iadd, 1) := by decide +kernel
theorem dL_law_986 : decode cL_law 986 = .ok (.iaload, 1) := by decide +kernel
theorem dL_law_987 : decode cL_law 987 = .ok (.aload_n 0, 1) := by decide +kernel
theorem dL_law_988 : decode cL_law 988 = .ok (.iload_n 3, 1) := by decide +kernel
theorem dL_law_989 : decode cL_law 989 = .ok (.iconst 3, 1) := by decide +kernel
theorem dL_law_990 : decode cL_law 990 = .ok (.iadd, 1) := by decide +kernel
theorem dL_law_991 : decode cL_law 991 = .ok (.iaload, 1) := by decide +kernel
theorem dL_law_992 : decode cL_law 992 = .ok (.invokevirtual 104, 3) := by decide +kernel
theorem dL_law_995 : decode cL_law 995 = .ok (.if_icmp .eq 641, 3) := by decide +kernel
theorem dL_law_998 : decode cL_law 998 = .ok (.iconst 0, 1) := by decide +kernel
theorem dL_law_999 : decode cL_law 999 = .ok (.ireturn, 1) := by decide +kernel
theorem dL_law_1000 : decode cL_law 1000 = .ok (.aload_n 1, 1) := by decide +kernel
theorem dL_law_1001 : decode cL_law 1001 = .ok (.aload_n 0, 1) := by decide +kernel
theorem dL_law_1002 : decode cL_law 1002 = .ok (.iload_n 3, 1) := by decide +kernel
theorem dL_law_1003 : decode cL_law 1003 = .ok (.iconst 1, 1) := by decide +kernel
theorem dL_law_1004 : decode cL_law 1004 = .ok (.iadd, 1) := by decide +kernel
theorem dL_law_1005 : decode cL_law 1005 = .ok (.iaload, 1) := by decide +kernel
theorem dL_law_1006 : decode cL_law 1006 = .ok (.aload_n 0, 1) := by decide +kernel
theorem dL_law_1007 : decode cL_law 1007 = .ok (.iload_n 3, 1) := by decide +kernel
theorem dL_law_1008 : decode cL_law 1008 = .ok (.iconst 2, 1) := by decide +kernel
theorem dL_law_1009 : decode cL_law 1009 = .ok (.iadd, 1) := by decide +kernel
theorem dL_law_1010 : decode cL_law 1010 = .ok (.iaload, 1) := by decide +kernel
theorem dL_law_1011 : decode cL_law 1011 = .ok (.invokevirtual 105, 3) := by decide +kernel
theorem dL_law_1014 : decode cL_law 1014 = .ok (.aload_n 2, 1) := by decide +kernel
theorem dL_law_1015 : decode cL_law 1015 = .ok (.aload_n 0, 1) := by decide +kernel
theorem dL_law_1016 : decode cL_law 1016 = .ok (.iload_n 3, 1) := by decide +kernel
theorem dL_law_1017 : decode cL_law 1017 = .ok (.iconst 1, 1) := by decide +kernel
theorem dL_law_1018 : decode cL_law 1018 = .ok (.iadd, 1) := by decide +kernel
theorem dL_law_1019 : decode cL_law 1019 = .ok (.iaload, 1) := by decide +kernel
theorem dL_law_1020 : decode cL_law 1020 = .ok (.aload_n 0, 1) := by decide +kernel
theorem dL_law_1021 : decode cL_law 1021 = .ok (.iload_n 3, 1) := by decide +kernel
theorem dL_law_1022 : decode cL_law 1022 = .ok (.iconst 2, 1) := by decide +kernel
theorem dL_law_1023 : decode cL_law 1023 = .ok (.iadd, 1) := by decide +kernel
theorem dL_law_1024 : decode cL_law 1024 = .ok (.iaload, 1) := by decide +kernel
theorem dL_law_1025 : decode cL_law 1025 = .ok (.invokevirtual 108, 3) := by decide +kernel
theorem dL_law_1028 : decode cL_law 1028 = .ok (.if_icmp .eq 608, 3) := by decide +kernel
theorem dL_law_1031 : decode cL_law 1031 = .ok (.iconst 0, 1) := by decide +kernel
theorem dL_law_1032 : decode cL_law 1032 = .ok (.ireturn, 1) := by decide +kernel
theorem dL_law_1033 : decode cL_law 1033 = .ok (.aload_n 1, 1) := by decide +kernel
theorem dL_law_1034 : decode cL_law 1034 = .ok (.invokevirtual 109, 3) := by decide +kernel
theorem dL_law_1037 : decode cL_law 1037 = .ok (.aload_n 2, 1) := by decide +kernel
theorem dL_law_1038 : decode cL_law 1038 = .ok (.invokevirtual 113, 3) := by decide +kernel
theorem dL_law_1041 : decode cL_law 1041 = .ok (.if_icmp .eq 595, 3) := by decide +kernel
theorem dL_law_1044 : decode cL_law 1044 = .ok (.iconst 0, 1) := by decide +kernel
theorem dL_law_1045 : decode cL_law 1045 = .ok (.ireturn, 1) := by decide +kernel
theorem dL_law_1046 : decode cL_law 1046 = .ok (.aload_n 1, 1) := by decide +kernel
theorem dL_law_1047 : decode cL_law 1047 = .ok (.aload_n 0, 1) := by decide +kernel
theorem dL_law_1048 : decode cL_law 1048 = .ok (.iload_n 3, 1) := by decide +kernel
theorem dL_law_1049 : decode cL_law 1049 = .ok (.iconst 1, 1) := by decide +kernel
theorem dL_law_1050 : decode cL_law 1050 = .ok (.iadd, 1) := by decide +kernel
theorem dL_law_1051 : decode cL_law 1051 = .ok (.iaload, 1) := by decide +kernel
theorem dL_law_1052 : decode cL_law 1052 = .ok (.invokevirtual 114, 3) := by decide +kernel
theorem dL_law_1055 : decode cL_law 1055 = .ok (.aload_n 2, 1) := by decide +kernel
theorem dL_law_1056 : decode cL_law 1056 = .ok (.aload_n 0, 1) := by decide +kernel
theorem dL_law_1057 : decode cL_law 1057 = .ok (.iload_n 3, 1) := by decide +kernel
theorem dL_law_1058 : decode cL_law 1058 = .ok (.iconst 1, 1) := by decide +kernel
theorem dL_law_1059 : decode cL_law 1059 = .ok (.iadd, 1) := by decide +kernel
theorem dL_law_1060 : decode cL_law 1060 = .ok (.iaload, 1) := by decide +kernel
theorem dL_law_1061 : decode cL_law 1061 = .ok (.invokevirtual 117, 3) := by decide +kernel
theorem dL_law_1064 : decode cL_law 1064 = .ok (.if_icmp .eq 572, 3) := by decide +kernel
theorem dL_law_1067 : decode cL_law 1067 = .ok (.iconst 0, 1) := by decide +kernel
theorem dL_law_1068 : decode cL_law 1068 = .ok (.ireturn, 1) := by decide +kernel
theorem dL_law_1069 : decode cL_law 1069 = .ok (.aload_n 1, 1) := by decide +kernel
theorem dL_law_1070 : decode cL_law 1070 = .ok (.aload_n 0, 1) := by decide +kernel
theorem dL_law_1071 : decode cL_law 1071 = .ok (.iload_n 3, 1) := by decide +kernel
theorem dL_law_1072 : decode cL_law 1072 = .ok (.iconst 1, 1) := by decide +kernel
theorem dL_law_1073 : decode cL_law 1073 = .ok (.iadd, 1) := by decide +kernel
theorem dL_law_1074 : decode cL_law 1074 = .ok (.iaload, 1) := by decide +kernel
theorem dL_law_1075 : decode cL_law 1075 = .ok (.aload_n 0, 1) := by decide +kernel
theorem dL_law_1076 : decode cL_law 1076 = .ok (.iload_n 3, 1) := by decide +kernel
theorem dL_law_1077 : decode cL_law 1077 = .ok (.iconst 2, 1) := by decide +kernel
theorem dL_law_1078 : decode cL_law 1078 = .ok (.iadd, 1) := by decide +kernel
theorem dL_law_1079 : decode cL_law 1079 = .ok (.iaload, 1) := by decide +kernel
theorem dL_law_1080 : decode cL_law 1080 = .ok (.aload_n 0, 1) := by decide +kernel
theorem dL_law_1081 : decode cL_law 1081 = .ok (.iload_n 3, 1) := by decide +kernel
theorem dL_law_1082 : decode cL_law 1082 = .ok (.iconst 3, 1) := by decide +kernel
theorem dL_law_1083 : decode cL_law 1083 = .ok (.iadd, 1) := by decide +kernel
theorem dL_law_1084 : decode cL_law 1084 = .ok (.iaload, 1) := by decide +kernel
theorem dL_law_1085 : decode cL_law 1085 = .ok (.invokevirtual 118, 3) := by decide +kernel
theorem dL_law_1088 : decode cL_law 1088 = .ok (.aload_n 2, 1) := by decide +kernel
theorem dL_law_1089 : decode cL_law 1089 = .ok (.aload_n 0, 1) := by decide +kernel
theorem dL_law_1090 : decode cL_law 1090 = .ok (.iload_n 3, 1) := by decide +kernel
theorem dL_law_1091 : decode cL_law 1091 = .ok (.iconst 1, 1) := by decide +kernel
theorem dL_law_1092 : decode cL_law 1092 = .ok (.iadd, 1) := by decide +kernel
theorem dL_law_1093 : decode cL_law 1093 = .ok (.iaload, 1) := by decide +kernel
theorem dL_law_1094 : decode cL_law 1094 = .ok (.aload_n 0, 1) := by decide +kernel
theorem dL_law_1095 : decode cL_law 1095 = .ok (.iload_n 3, 1) := by decide +kernel
theorem dL_law_1096 : decode cL_law 1096 = .ok (.iconst 2, 1) := by decide +kernel
theorem dL_law_1097 : decode cL_law 1097 = .ok (.iadd, 1) := by decide +kernel
theorem dL_law_1098 : decode cL_law 1098 = .ok (.iaload, 1) := by decide +kernel
theorem dL_law_1099 : decode cL_law 1099 = .ok (.aload_n 0, 1) := by decide +kernel
theorem dL_law_1100 : decode cL_law 1100 = .ok (.iload_n 3, 1) := by decide +kernel
theorem dL_law_1101 : decode cL_law 1101 = .ok (.iconst 3, 1) := by decide +kernel
theorem dL_law_1102 : decode cL_law 1102 = .ok (.iadd, 1) := by decide +kernel
theorem dL_law_1103 : decode cL_law 1103 = .ok (.iaload, 1) := by decide +kernel
theorem dL_law_1104 : decode cL_law 1104 = .ok (.invokevirtual 121, 3) := by decide +kernel
theorem dL_law_1107 : decode cL_law 1107 = .ok (.if_icmp .eq 529, 3) := by decide +kernel
theorem dL_law_1110 : decode cL_law 1110 = .ok (.iconst 0, 1) := by decide +kernel
theorem dL_law_1111 : decode cL_law 1111 = .ok (.ireturn, 1) := by decide +kernel
theorem dL_law_1112 : decode cL_law 1112 = .ok (.aload_n 1, 1) := by decide +kernel
theorem dL_law_1113 : decode cL_law 1113 = .ok (.aload_n 0, 1) := by decide +kernel
theorem dL_law_1114 : decode cL_law 1114 = .ok (.iload_n 3, 1) := by decide +kernel
theorem dL_law_1115 : decode cL_law 1115 = .ok (.iconst 1, 1) := by decide +kernel
theorem dL_law_1116 : decode cL_law 1116 = .ok (.iadd, 1) := by decide +kernel
theorem dL_law_1117 : decode cL_law 1117 = .ok (.iaload, 1) := by decide +kernel
theorem dL_law_1118 : decode cL_law 1118 = .ok (.invokevirtual 122, 3) := by decide +kernel
theorem dL_law_1121 : decode cL_law 1121 = .ok (.aload_n 2, 1) := by decide +kernel
theorem dL_law_1122 : decode cL_law 1122 = .ok (.aload_n 0, 1) := by decide +kernel
theorem dL_law_1123 : decode cL_law 1123 = .ok (.iload_n 3, 1) := by decide +kernel
theorem dL_law_1124 : decode cL_law 1124 = .ok (.iconst 1, 1) := by decide +kernel
theorem dL_law_1125 : decode cL_law 1125 = .ok (.iadd, 1) := by decide +kernel
theorem dL_law_1126 : decode cL_law 1126 = .ok (.iaload, 1) := by decide +kernel
theorem dL_law_1127 : decode cL_law 1127 = .ok (.invokevirtual 125, 3) := by decide +kernel
theorem dL_law_1130 : decode cL_law 1130 = .ok (.if_icmp .eq 506, 3) := by decide +kernel
theorem dL_law_1133 : decode cL_law 1133 = .ok (.iconst 0, 1) := by decide +kernel
theorem dL_law_1134 : decode cL_law 1134 = .ok (.ireturn, 1) := by decide +kernel
theorem dL_law_1135 : decode cL_law 1135 = .ok (.aload_n 1, 1) := by decide +kernel
theorem dL_law_1136 : decode cL_law 1136 = .ok (.invokevirtual 126, 3) := by decide +kernel
theorem dL_law_1139 : decode cL_law 1139 = .ok (.aload_n 2, 1) := by decide +kernel
theorem dL_law_1140 : decode cL_law 1140 = .ok (.invokevirtual 129, 3) := by decide +kernel
theorem dL_law_1143 : decode cL_law 1143 = .ok (.if_icmp .eq 493, 3) := by decide +kernel
theorem dL_law_1146 : decode cL_law 1146 = .ok (.iconst 0, 1) := by decide +kernel
theorem dL_law_1147 : decode cL_law 1147 = .ok (.ireturn, 1) := by decide +kernel
theorem dL_law_1148 : decode cL_law 1148 = .ok (.aload_n 1, 1) := by decide +kernel
theorem dL_law_1149 : decode cL_law 1149 = .ok (.aload_n 0, 1) := by decide +kernel
theorem dL_law_1150 : decode cL_law 1150 = .ok (.iload_n 3, 1) := by decide +kernel
theorem dL_law_1151 : decode cL_law 1151 = .ok (.iconst 1, 1) := by decide +kernel
theorem dL_law_1152 : decode cL_law 1152 = .ok (.iadd, 1) := by decide +kernel
theorem dL_law_1153 : decode cL_law 1153 = .ok (.iaload, 1) := by decide +kernel
theorem dL_law_1154 : decode cL_law 1154 = .ok (.aload_n 0, 1) := by decide +kernel
theorem dL_law_1155 : decode cL_law 1155 = .ok (.iload_n 3, 1) := by decide +kernel
theorem dL_law_1156 : decode cL_law 1156 = .ok (.iconst 2, 1) := by decide +kernel
theorem dL_law_1157 : decode cL_law 1157 = .ok (.iadd, 1) := by decide +kernel
theorem dL_law_1158 : decode cL_law 1158 = .ok (.iaload, 1) := by decide +kernel
theorem dL_law_1159 : decode cL_law 1159 = .ok (.invokevirtual 130, 3) := by decide +kernel
theorem dL_law_1162 : decode cL_law 1162 = .ok (.aload_n 2, 1) := by decide +kernel
theorem dL_law_1163 : decode cL_law 1163 = .ok (.aload_n 0, 1) := by decide +kernel
theorem dL_law_1164 : decode cL_law 1164 = .ok (.iload_n 3, 1) := by decide +kernel
theorem dL_law_1165 : decode cL_law 1165 = .ok (.iconst 1, 1) := by decide +kernel
theorem dL_law_1166 : decode cL_law 1166 = .ok (.iadd, 1) := by decide +kernel
theorem dL_law_1167 : decode cL_law 1167 = .ok (.iaload, 1) := by decide +kernel
theorem dL_law_1168 : decode cL_law 1168 = .ok (.aload_n 0, 1) := by decide +kernel
theorem dL_law_1169 : decode cL_law 1169 = .ok (.iload_n 3, 1) := by decide +kernel
theorem dL_law_1170 : decode cL_law 1170 = .ok (.iconst 2, 1) := by decide +kernel
theorem dL_law_1171 : decode cL_law 1171 = .ok (.iadd, 1) := by decide +kernel
theorem dL_law_1172 : decode cL_law 1172 = .ok (.iaload, 1) := by decide +kernel
theorem dL_law_1173 : decode cL_law 1173 = .ok (.invokevirtual 133, 3) := by decide +kernel
theorem dL_law_1176 : decode cL_law 1176 = .ok (.if_icmp .eq 460, 3) := by decide +kernel
theorem dL_law_1179 : decode cL_law 1179 = .ok (.iconst 0, 1) := by decide +kernel
theorem dL_law_1180 : decode cL_law 1180 = .ok (.ireturn, 1) := by decide +kernel
theorem dL_law_1181 : decode cL_law 1181 = .ok (.aload_n 1, 1) := by decide +kernel
theorem dL_law_1182 : decode cL_law 1182 = .ok (.aload_n 0, 1) := by decide +kernel
theorem dL_law_1183 : decode cL_law 1183 = .ok (.iload_n 3, 1) := by decide +kernel
theorem dL_law_1184 : decode cL_law 1184 = .ok (.iconst 1, 1) := by decide +kernel
theorem dL_law_1185 : decode cL_law 1185 = .ok (.iadd, 1) := by decide +kernel
theorem dL_law_1186 : decode cL_law 1186 = .ok (.iaload, 1) := by decide +kernel
theorem dL_law_1187 : decode cL_law 1187 = .ok (.invokevirtual 134, 3) := by decide +kernel
theorem dL_law_1190 : decode cL_law 1190 = .ok (.aload_n 2, 1) := by decide +kernel
theorem dL_law_1191 : decode cL_law 1191 = .ok (.aload_n 0, 1) := by decide +kernel
theorem dL_law_1192 : decode cL_law 1192 = .ok (.iload_n 3, 1) := by decide +kernel
theorem dL_law_1193 : decode cL_law 1193 = .ok (.iconst 1, 1) := by decide +kernel
theorem dL_law_1194 : decode cL_law 1194 = .ok (.iadd, 1) := by decide +kernel
theorem dL_law_1195 : decode cL_law 1195 = .ok (.iaload, 1) := by decide +kernel
theorem dL_law_1196 : decode cL_law 1196 = .ok (.invokevirtual 137, 3) := by decide +kernel
theorem dL_law_1199 : decode cL_law 1199 = .ok (.if_icmp .eq 437, 3) := by decide +kernel
theorem dL_law_1202 : decode cL_law 1202 = .ok (.iconst 0, 1) := by decide +kernel
theorem dL_law_1203 : decode cL_law 1203 = .ok (.ireturn, 1) := by decide +kernel
theorem dL_law_1204 : decode cL_law 1204 = .ok (.aload_n 1, 1) := by decide +kernel
theorem dL_law_1205 : decode cL_law 1205 = .ok (.aload_n 0, 1) := by decide +kernel
theorem dL_law_1206 : decode cL_law 1206 = .ok (.iload_n 3, 1) := by decide +kernel
theorem dL_law_1207 : decode cL_law 1207 = .ok (.iconst 1, 1) := by decide +kernel
theorem dL_law_1208 : decode cL_law 1208 = .ok (.iadd, 1) := by decide +kernel
theorem dL_law_1209 : decode cL_law 1209 = .ok (.iaload, 1) := by decide +kernel
theorem dL_law_1210 : decode cL_law 1210 = .ok (.aload_n 0, 1) := by decide +kernel
theorem dL_law_1211 : decode cL_law 1211 = .ok (.iload_n 3, 1) := by decide +kernel
theorem dL_law_1212 : decode cL_law 1212 = .ok (.iconst 2, 1) := by decide +kernel
theorem dL_law_1213 : decode cL_law 1213 = .ok (.iadd, 1) := by decide +kernel
theorem dL_law_1214 : decode cL_law 1214 = .ok (.iaload, 1) := by decide +kernel
theorem dL_law_1215 : decode cL_law 1215 = .ok (.aload_n 0, 1) := by decide +kernel
theorem dL_law_1216 : decode cL_law 1216 = .ok (.iload_n 3, 1) := by decide +kernel
theorem dL_law_1217 : decode cL_law 1217 = .ok (.iconst 3, 1) := by decide +kernel
theorem dL_law_1218 : decode cL_law 1218 = .ok (.iadd, 1) := by decide +kernel
theorem dL_law_1219 : decode cL_law 1219 = .ok (.iaload, 1) := by decide +kernel
theorem dL_law_1220 : decode cL_law 1220 = .ok (.invokevirtual 138, 3) := by decide +kernel
theorem dL_law_1223 : decode cL_law 1223 = .ok (.aload_n 2, 1) := by decide +kernel
theorem dL_law_1224 : decode cL_law 1224 = .ok (.aload_n 0, 1) := by decide +kernel
theorem dL_law_1225 : decode cL_law 1225 = .ok (.iload_n 3, 1) := by decide +kernel
theorem dL_law_1226 : decode cL_law 1226 = .ok (.iconst 1, 1) := by decide +kernel
theorem dL_law_1227 : decode cL_law 1227 = .ok (.iadd, 1) := by decide +kernel
theorem dL_law_1228 : decode cL_law 1228 = .ok (.iaload, 1) := by decide +kernel
theorem dL_law_1229 : decode cL_law 1229 = .ok (.aload_n 0, 1) := by decide +kernel
theorem dL_law_1230 : decode cL_law 1230 = .ok (.iload_n 3, 1) := by decide +kernel
theorem dL_law_1231 : decode cL_law 1231 = .ok (.iconst 2, 1) := by decide +kernel
theorem dL_law_1232 : decode cL_law 1232 = .ok (.iadd, 1) := by decide +kernel
theorem dL_law_1233 : decode cL_law 1233 = .ok (.iaload, 1) := by decide +kernel
theorem dL_law_1234 : decode cL_law 1234 = .ok (.aload_n 0, 1) := by decide +kernel
theorem dL_law_1235 : decode cL_law 1235 = .ok (.iload_n 3, 1) := by decide +kernel
theorem dL_law_1236 : decode cL_law 1236 = .ok (.iconst 3, 1) := by decide +kernel
theorem dL_law_1237 : decode cL_law 1237 = .ok (.iadd, 1) := by decide +kernel
theorem dL_law_1238 : decode cL_law 1238 = .ok (.iaload, 1) := by decide +kernel
theorem dL_law_1239 : decode cL_law 1239 = .ok (.invokevirtual 141, 3) := by decide +kernel
theorem dL_law_1242 : decode cL_law 1242 = .ok (.if_icmp .eq 394, 3) := by decide +kernel
theorem dL_law_1245 : decode cL_law 1245 = .ok (.iconst 0, 1) := by decide +kernel
theorem dL_law_1246 : decode cL_law 1246 = .ok (.ireturn, 1) := by decide +kernel
theorem dL_law_1247 : decode cL_law 1247 = .ok (.aload_n 1, 1) := by decide +kernel
theorem dL_law_1248 : decode cL_law 1248 = .ok (.aload_n 0, 1) := by decide +kernel
theorem dL_law_1249 : decode cL_law 1249 = .ok (.iload_n 3, 1) := by decide +kernel
theorem dL_law_1250 : decode cL_law 1250 = .ok (.iconst 1, 1) := by decide +kernel
theorem dL_law_1251 : decode cL_law 1251 = .ok (.iadd, 1) := by decide +kernel
theorem dL_law_1252 : decode cL_law 1252 = .ok (.iaload, 1) := by decide +kernel
theorem dL_law_1253 : decode cL_law 1253 = .ok (.aload_n 0, 1) := by decide +kernel
theorem dL_law_1254 : decode cL_law 1254 = .ok (.iload_n 3, 1) := by decide +kernel
theorem dL_law_1255 : decode cL_law 1255 = .ok (.iconst 2, 1) := by decide +kernel
theorem dL_law_1256 : decode cL_law 1256 = .ok (.iadd, 1) := by decide +kernel
theorem dL_law_1257 : decode cL_law 1257 = .ok (.iaload, 1) := by decide +kernel
theorem dL_law_1258 : decode cL_law 1258 = .ok (.aload_n 0, 1) := by decide +kernel
theorem dL_law_1259 : decode cL_law 1259 = .ok (.iload_n 3, 1) := by decide +kernel
theorem dL_law_1260 : decode cL_law 1260 = .ok (.iconst 3, 1) := by decide +kernel
theorem dL_law_1261 : decode cL_law 1261 = .ok (.iadd, 1) := by decide +kernel
theorem dL_law_1262 : decode cL_law 1262 = .ok (.iaload, 1) := by decide +kernel
theorem dL_law_1263 : decode cL_law 1263 = .ok (.invokevirtual 142, 3) := by decide +kernel
theorem dL_law_1266 : decode cL_law 1266 = .ok (.aload_n 2, 1) := by decide +kernel
theorem dL_law_1267 : decode cL_law 1267 = .ok (.aload_n 0, 1) := by decide +kernel
theorem dL_law_1268 : decode cL_law 1268 = .ok (.iload_n 3, 1) := by decide +kernel
theorem dL_law_1269 : decode cL_law 1269 = .ok (.iconst 1, 1) := by decide +kernel
theorem dL_law_1270 : decode cL_law 1270 = .ok (.iadd, 1) := by decide +kernel
theorem dL_law_1271 : decode cL_law 1271 = .ok (.iaload, 1) := by decide +kernel
theorem dL_law_1272 : decode cL_law 1272 = .ok (.aload_n 0, 1) := by decide +kernel
theorem dL_law_1273 : decode cL_law 1273 = .ok (.iload_n 3, 1) := by decide +kernel
theorem dL_law_1274 : decode cL_law 1274 = .ok (.iconst 2, 1) := by decide +kernel
theorem dL_law_1275 : decode cL_law 1275 = .ok (.iadd, 1) := by decide +kernel
theorem dL_law_1276 : decode cL_law 1276 = .ok (.iaload, 1) := by decide +kernel
theorem dL_law_1277 : decode cL_law 1277 = .ok (.aload_n 0, 1) := by decide +kernel
theorem dL_law_1278 : decode cL_law 1278 = .ok (.iload_n 3, 1) := by decide +kernel
theorem dL_law_1279 : decode cL_law 1279 = .ok (.iconst 3, 1) := by decide +kernel
theorem dL_law_1280 : decode cL_law 1280 = .ok (.iadd, 1) := by decide +kernel
theorem dL_law_1281 : decode cL_law 1281 = .ok (.iaload, 1) := by decide +kernel
theorem dL_law_1282 : decode cL_law 1282 = .ok (.invokevirtual 145, 3) := by decide +kernel
theorem dL_law_1285 : decode cL_law 1285 = .ok (.if_icmp .eq 351, 3) := by decide +kernel
theorem dL_law_1288 : decode cL_law 1288 = .ok (.iconst 0, 1) := by decide +kernel
theorem dL_law_1289 : decode cL_law 1289 = .ok (.ireturn, 1) := by decide +kernel
theorem dL_law_1290 : decode cL_law 1290 = .ok (.aload_n 1, 1) := by decide +kernel
theorem dL_law_1291 : decode cL_law 1291 = .ok (.aload_n 0, 1) := by decide +kernel
theorem dL_law_1292 : decode cL_law 1292 = .ok (.iload_n 3, 1) := by decide +kernel
theorem dL_law_1293 : decode cL_law 1293 = .ok (.iconst 1, 1) := by decide +kernel
theorem dL_law_1294 : decode cL_law 1294 = .ok (.iadd, 1) := by decide +kernel
theorem dL_law_1295 : decode cL_law 1295 = .ok (.iaload, 1) := by decide +kernel
theorem dL_law_1296 : decode cL_law 1296 = .ok (.invokevirtual 146, 3) := by decide +kernel
theorem dL_law_1299 : decode cL_law 1299 = .ok (.aload_n 2, 1) := by decide +kernel
theorem dL_law_1300 : decode cL_law 1300 = .ok (.aload_n 0, 1) := by decide +kernel
theorem dL_law_1301 : decode cL_law 1301 = .ok (.iload_n 3, 1) := by decide +kernel
theorem dL_law_1302 : decode cL_law 1302 = .ok (.iconst 1, 1) := by decide +kernel
theorem dL_law_1303 : decode cL_law 1303 = .ok (.iadd, 1) := by decide +kernel
theorem dL_law_1304 : decode cL_law 1304 = .ok (.iaload, 1) := by decide +kernel
theorem dL_law_1305 : decode cL_law 1305 = .ok (.invokevirtual 149, 3) := by decide +kernel
theorem dL_law_1308 : decode cL_law 1308 = .ok (.if_icmp .eq 328, 3) := by decide +kernel
theorem dL_law_1311 : decode cL_law 1311 = .ok (.iconst 0, 1) := by decide +kernel
theorem dL_law_1312 : decode cL_law 1312 = .ok (.ireturn, 1) := by decide +kernel
theorem dL_law_1313 : decode cL_law 1313 = .ok (.aload_n 1, 1) := by decide +kernel
theorem dL_law_1314 : decode cL_law 1314 = .ok (.aload_n 0, 1) := by decide +kernel
theorem dL_law_1315 : decode cL_law 1315 = .ok (.iload_n 3, 1) := by decide +kernel
theorem dL_law_1316 : decode cL_law 1316 = .ok (.iconst 1, 1) := by decide +kernel
theorem dL_law_1317 : decode cL_law 1317 = .ok (.iadd, 1) := by decide +kernel
theorem dL_law_1318 : decode cL_law 1318 = .ok (.iaload, 1) := by decide +kernel
theorem dL_law_1319 : decode cL_law 1319 = .ok (.invokevirtual 150, 3) := by decide +kernel
theorem dL_law_1322 : decode cL_law 1322 = .ok (.aload_n 2, 1) := by decide +kernel
theorem dL_law_1323 : decode cL_law 1323 = .ok (.aload_n 0, 1) := by decide +kernel
theorem dL_law_1324 : decode cL_law 1324 = .ok (.iload_n 3, 1) := by decide +kernel
theorem dL_law_1325 : decode cL_law 1325 = .ok (.iconst 1, 1) := by decide +kernel
theorem dL_law_1326 : decode cL_law 1326 = .ok (.iadd, 1) := by decide +kernel
theorem dL_law_1327 : decode cL_law 1327 = .ok (.iaload, 1) := by decide +kernel
theorem dL_law_1328 : decode cL_law 1328 = .ok (.invokevirtual 153, 3) := by decide +kernel
theorem dL_law_1331 : decode cL_law 1331 = .ok (.if_icmp .eq 305, 3) := by decide +kernel
theorem dL_law_1334 : decode cL_law 1334 = .ok (.iconst 0, 1) := by decide +kernel
theorem dL_law_1335 : decode cL_law 1335 = .ok (.ireturn, 1) := by decide +kernel
theorem dL_law_1336 : decode cL_law 1336 = .ok (.aload_n 1, 1) := by decide +kernel
theorem dL_law_1337 : decode cL_law 1337 = .ok (.aload_n 0, 1) := by decide +kernel
theorem dL_law_1338 : decode cL_law 1338 = .ok (.iload_n 3, 1) := by decide +kernel
theorem dL_law_1339 : decode cL_law 1339 = .ok (.iconst 1, 1) := by decide +kernel
theorem dL_law_1340 : decode cL_law 1340 = .ok (.iadd, 1) := by decide +kernel
theorem dL_law_1341 : decode cL_law 1341 = .ok (.iaload, 1) := by decide +kernel
theorem dL_law_1342 : decode cL_law 1342 = .ok (.aload_n 0, 1) := by decide +kernel
theorem dL_law_1343 : decode cL_law 1343 = .ok (.iload_n 3, 1) := by decide +kernel
theorem dL_law_1344 : decode cL_law 1344 = .ok (.iconst 2, 1) := by decide +kernel
theorem dL_law_1345 : decode cL_law 1345 = .ok (.iadd, 1) := by decide +kernel
theorem dL_law_1346 : decode cL_law 1346 = .ok (.iaload, 1) := by decide +kernel
theorem dL_law_1347 : decode cL_law 1347 = .ok (.aload_n 0, 1) := by decide +kernel
theorem dL_law_1348 : decode cL_law 1348 = .ok (.iload_n 3, 1) := by decide +kernel
theorem dL_law_1349 : decode cL_law 1349 = .ok (.iconst 3, 1) := by decide +kernel
theorem dL_law_1350 : decode cL_law 1350 = .ok (.iadd, 1) := by decide +kernel
theorem dL_law_1351 : decode cL_law 1351 = .ok (.iaload, 1) := by decide +kernel
theorem dL_law_1352 : decode cL_law 1352 = .ok (.aload_n 0, 1) := by decide +kernel
theorem dL_law_1353 : decode cL_law 1353 = .ok (.iload_n 3, 1) := by decide +kernel
theorem dL_law_1354 : decode cL_law 1354 = .ok (.iconst 4, 1) := by decide +kernel
theorem dL_law_1355 : decode cL_law 1355 = .ok (.iadd, 1) := by decide +kernel
theorem dL_law_1356 : decode cL_law 1356 = .ok (.iaload, 1) := by decide +kernel
theorem dL_law_1357 : decode cL_law 1357 = .ok (.aload_n 0, 1) := by decide +kernel
theorem dL_law_1358 : decode cL_law 1358 = .ok (.iload_n 3, 1) := by decide +kernel
theorem dL_law_1359 : decode cL_law 1359 = .ok (.iconst 5, 1) := by decide +kernel
theorem dL_law_1360 : decode cL_law 1360 = .ok (.iadd, 1) := by decide +kernel
theorem dL_law_1361 : decode cL_law 1361 = .ok (.iaload, 1) := by decide +kernel
theorem dL_law_1362 : decode cL_law 1362 = .ok (.invokevirtual 154, 3) := by decide +kernel
theorem dL_law_1365 : decode cL_law 1365 = .ok (.aload_n 2, 1) := by decide +kernel
theorem dL_law_1366 : decode cL_law 1366 = .ok (.aload_n 0, 1) := by decide +kernel
theorem dL_law_1367 : decode cL_law 1367 = .ok (.iload_n 3, 1) := by decide +kernel
theorem dL_law_1368 : decode cL_law 1368 = .ok (.iconst 1, 1) := by decide +kernel
theorem dL_law_1369 : decode cL_law 1369 = .ok (.iadd, 1) := by decide +kernel
theorem dL_law_1370 : decode cL_law 1370 = .ok (.iaload, 1) := by decide +kernel
theorem dL_law_1371 : decode cL_law 1371 = .ok (.aload_n 0, 1) := by decide +kernel
theorem dL_law_1372 : decode cL_law 1372 = .ok (.iload_n 3, 1) := by decide +kernel
theorem dL_law_1373 : decode cL_law 1373 = .ok (.iconst 2, 1) := by decide +kernel
theorem dL_law_1374 : decode cL_law 1374 = .ok (.iadd, 1) := by decide +kernel
theorem dL_law_1375 : decode cL_law 1375 = .ok (.iaload, 1) := by decide +kernel
theorem dL_law_1376 : decode cL_law 1376 = .ok (.aload_n 0, 1) := by decide +kernel
theorem dL_law_1377 : decode cL_law 1377 = .ok (.iload_n 3, 1) := by decide +kernel
theorem dL_law_1378 : decode cL_law 1378 = .ok (.iconst 3, 1) := by decide +kernel
theorem dL_law_1379 : decode cL_law 1379 = .ok (.iadd, 1) := by decide +kernel
theorem dL_law_1380 : decode cL_law 1380 = .ok (.iaload, 1) := by decide +kernel
theorem dL_law_1381 : decode cL_law 1381 = .ok (.aload_n 0, 1) := by decide +kernel
theorem dL_law_1382 : decode cL_law 1382 = .ok (.iload_n 3, 1) := by decide +kernel
theorem dL_law_1383 : decode cL_law 1383 = .ok (.iconst 4, 1) := by decide +kernel
theorem dL_law_1384 : decode cL_law 1384 = .ok (.iadd, 1) := by decide +kernel
theorem dL_law_1385 : decode cL_law 1385 = .ok (.iaload, 1) := by decide +kernel
theorem dL_law_1386 : decode cL_law 1386 = .ok (.aload_n 0, 1) := by decide +kernel
theorem dL_law_1387 : decode cL_law 1387 = .ok (.iload_n 3, 1) := by decide +kernel
theorem dL_law_1388 : decode cL_law 1388 = .ok (.iconst 5, 1) := by decide +kernel
theorem dL_law_1389 : decode cL_law 1389 = .ok (.iadd, 1) := by decide +kernel
theorem dL_law_1390 : decode cL_law 1390 = .ok (.iaload, 1) := by decide +kernel
theorem dL_law_1391 : decode cL_law 1391 = .ok (.invokevirtual 158, 3) := by decide +kernel
theorem dL_law_1394 : decode cL_law 1394 = .ok (.if_icmp .eq 242, 3) := by decide +kernel
theorem dL_law_1397 : decode cL_law 1397 = .ok (.iconst 0, 1) := by decide +kernel
theorem dL_law_1398 : decode cL_law 1398 = .ok (.ireturn, 1) := by decide +kernel
theorem dL_law_1399 : decode cL_law 1399 = .ok (.aload_n 1, 1) := by decide +kernel
theorem dL_law_1400 : decode cL_law 1400 = .ok (.aload_n 0, 1) := by decide +kernel
theorem dL_law_1401 : decode cL_law 1401 = .ok (.iload_n 3, 1) := by decide +kernel
theorem dL_law_1402 : decode cL_law 1402 = .ok (.iconst 1, 1) := by decide +kernel
theorem dL_law_1403 : decode cL_law 1403 = .ok (.iadd, 1) := by decide +kernel
theorem dL_law_1404 : decode cL_law 1404 = .ok (.iaload, 1) := by decide +kernel
theorem dL_law_1405 : decode cL_law 1405 = .ok (.aload_n 0, 1) := by decide +kernel
theorem dL_law_1406 : decode cL_law 1406 = .ok (.iload_n 3, 1) := by decide +kernel
theorem dL_law_1407 : decode cL_law 1407 = .ok (.iconst 2, 1) := by decide +kernel
theorem dL_law_1408 : decode cL_law 1408 = .ok (.iadd, 1) := by decide +kernel
theorem dL_law_1409 : decode cL_law 1409 = .ok (.iaload, 1) := by decide +kernel
theorem dL_law_1410 : decode cL_law 1410 = .ok (.aload_n 0, 1) := by decide +kernel
theorem dL_law_1411 : decode cL_law 1411 = .ok (.iload_n 3, 1) := by decide +kernel
theorem dL_law_1412 : decode cL_law 1412 = .ok (.iconst 3, 1) := by decide +kernel
theorem dL_law_1413 : decode cL_law 1413 = .ok (.iadd, 1) := by decide +kernel
theorem dL_law_1414 : decode cL_law 1414 = .ok (.iaload, 1) := by decide +kernel
theorem dL_law_1415 : decode cL_law 1415 = .ok (.invokevirtual 159, 3) := by decide +kernel
theorem dL_law_1418 : decode cL_law 1418 = .ok (.aload_n 2, 1) := by decide +kernel
theorem dL_law_1419 : decode cL_law 1419 = .ok (.aload_n 0, 1) := by decide +kernel
theorem dL_law_1420 : decode cL_law 1420 = .ok (.iload_n 3, 1) := by decide +kernel
theorem dL_law_1421 : decode cL_law 1421 = .ok (.iconst 1, 1) := by decide +kernel
theorem dL_law_1422 : decode cL_law 1422 = .ok (.iadd, 1) := by decide +kernel
theorem dL_law_1423 : decode cL_law 1423 = .ok (.iaload, 1) := by decide +kernel
theorem dL_law_1424 : decode cL_law 1424 = .ok (.aload_n 0, 1) := by decide +kernel
theorem dL_law_1425 : decode cL_law 1425 = .ok (.iload_n 3, 1) := by decide +kernel
theorem dL_law_1426 : decode cL_law 1426 = .ok (.iconst 2, 1) := by decide +kernel
theorem dL_law_1427 : decode cL_law 1427 = .ok (.iadd, 1) := by decide +kernel
theorem dL_law_1428 : decode cL_law 1428 = .ok (.iaload, 1) := by decide +kernel
theorem dL_law_1429 : decode cL_law 1429 = .ok (.aload_n 0, 1) := by decide +kernel
theorem dL_law_1430 : decode cL_law 1430 = .ok (.iload_n 3, 1) := by decide +kernel
theorem dL_law_1431 : decode cL_law 1431 = .ok (.iconst 3, 1) := by decide +kernel
theorem dL_law_1432 : decode cL_law 1432 = .ok (.iadd, 1) := by decide +kernel
theorem dL_law_1433 : decode cL_law 1433 = .ok (.iaload, 1) := by decide +kernel
theorem dL_law_1434 : decode cL_law 1434 = .ok (.invokevirtual 162, 3) := by decide +kernel
theorem dL_law_1437 : decode cL_law 1437 = .ok (.if_icmp .eq 199, 3) := by decide +kernel
theorem dL_law_1440 : decode cL_law 1440 = .ok (.iconst 0, 1) := by decide +kernel
theorem dL_law_1441 : decode cL_law 1441 = .ok (.ireturn, 1) := by decide +kernel
theorem dL_law_1442 : decode cL_law 1442 = .ok (.aload_n 1, 1) := by decide +kernel
theorem dL_law_1443 : decode cL_law 1443 = .ok (.aload_n 0, 1) := by decide +kernel
theorem dL_law_1444 : decode cL_law 1444 = .ok (.iload_n 3, 1) := by decide +kernel
theorem dL_law_1445 : decode cL_law 1445 = .ok (.iconst 1, 1) := by decide +kernel
theorem dL_law_1446 : decode cL_law 1446 = .ok (.iadd, 1) := by decide +kernel
theorem dL_law_1447 : decode cL_law 1447 = .ok (.iaload, 1) := by decide +kernel
theorem dL_law_1448 : decode cL_law 1448 = .ok (.aload_n 0, 1) := by decide +kernel
theorem dL_law_1449 : decode cL_law 1449 = .ok (.iload_n 3, 1) := by decide +kernel
theorem dL_law_1450 : decode cL_law 1450 = .ok (.iconst 2, 1) := by decide +kernel
theorem dL_law_1451 : decode cL_law 1451 = .ok (.iadd, 1) := by decide +kernel
theorem dL_law_1452 : decode cL_law 1452 = .ok (.iaload, 1) := by decide +kernel
theorem dL_law_1453 : decode cL_law 1453 = .ok (.invokevirtual 163, 3) := by decide +kernel
theorem dL_law_1456 : decode cL_law 1456 = .ok (.aload_n 2, 1) := by decide +kernel
theorem dL_law_1457 : decode cL_law 1457 = .ok (.aload_n 0, 1) := by decide +kernel
theorem dL_law_1458 : decode cL_law 1458 = .ok (.iload_n 3, 1) := by decide +kernel
theorem dL_law_1459 : decode cL_law 1459 = .ok (.iconst 1, 1) := by decide +kernel
theorem dL_law_1460 : decode cL_law 1460 = .ok (.iadd, 1) := by decide +kernel
theorem dL_law_1461 : decode cL_law 1461 = .ok (.iaload, 1) := by decide +kernel
theorem dL_law_1462 : decode cL_law 1462 = .ok (.aload_n 0, 1) := by decide +kernel
theorem dL_law_1463 : decode cL_law 1463 = .ok (.iload_n 3, 1) := by decide +kernel
theorem dL_law_1464 : decode cL_law 1464 = .ok (.iconst 2, 1) := by decide +kernel
theorem dL_law_1465 : decode cL_law 1465 = .ok (.iadd, 1) := by decide +kernel
theorem dL_law_1466 : decode cL_law 1466 = .ok (.iaload, 1) := by decide +kernel
theorem dL_law_1467 : decode cL_law 1467 = .ok (.invokevirtual 166, 3) := by decide +kernel
theorem dL_law_1470 : decode cL_law 1470 = .ok (.if_icmp .eq 166, 3) := by decide +kernel
theorem dL_law_1473 : decode cL_law 1473 = .ok (.iconst 0, 1) := by decide +kernel
theorem dL_law_1474 : decode cL_law 1474 = .ok (.ireturn, 1) := by decide +kernel
theorem dL_law_1475 : decode cL_law 1475 = .ok (.aload_n 1, 1) := by decide +kernel
theorem dL_law_1476 : decode cL_law 1476 = .ok (.aload_n 0, 1) := by decide +kernel
theorem dL_law_1477 : decode cL_law 1477 = .ok (.iload_n 3, 1) := by decide +kernel
theorem dL_law_1478 : decode cL_law 1478 = .ok (.iconst 1, 1) := by decide +kernel
theorem dL_law_1479 : decode cL_law 1479 = .ok (.iadd, 1) := by decide +kernel
theorem dL_law_1480 : decode cL_law 1480 = .ok (.iaload, 1) := by decide +kernel
theorem dL_law_1481 : decode cL_law 1481 = .ok (.aload_n 0, 1) := by decide +kernel
theorem dL_law_1482 : decode cL_law 1482 = .ok (.iload_n 3, 1) := by decide +kernel
theorem dL_law_1483 : decode cL_law 1483 = .ok (.iconst 2, 1) := by decide +kernel
theorem dL_law_1484 : decode cL_law 1484 = .ok (.iadd, 1) := by decide +kernel
theorem dL_law_1485 : decode cL_law 1485 = .ok (.iaload, 1) := by decide +kernel
theorem dL_law_1486 : decode cL_law 1486 = .ok (.invokevirtual 167, 3) := by decide +kernel
theorem dL_law_1489 : decode cL_law 1489 = .ok (.aload_n 2, 1) := by decide +kernel
theorem dL_law_1490 : decode cL_law 1490 = .ok (.aload_n 0, 1) := by decide +kernel
theorem dL_law_1491 : decode cL_law 1491 = .ok (.iload_n 3, 1) := by decide +kernel
theorem dL_law_1492 : decode cL_law 1492 = .ok (.iconst 1, 1) := by decide +kernel
theorem dL_law_1493 : decode cL_law 1493 = .ok (.iadd, 1) := by decide +kernel
theorem dL_law_1494 : decode cL_law 1494 = .ok (.iaload, 1) := by decide +kernel
theorem dL_law_1495 : decode cL_law 1495 = .ok (.aload_n 0, 1) := by decide +kernel
theorem dL_law_1496 : decode cL_law 1496 = .ok (.iload_n 3, 1) := by decide +kernel
theorem dL_law_1497 : decode cL_law 1497 = .ok (.iconst 2, 1) := by decide +kernel
theorem dL_law_1498 : decode cL_law 1498 = .ok (.iadd, 1) := by decide +kernel
theorem dL_law_1499 : decode cL_law 1499 = .ok (.iaload, 1) := by decide +kernel
theorem dL_law_1500 : decode cL_law 1500 = .ok (.invokevirtual 170, 3) := by decide +kernel
theorem dL_law_1503 : decode cL_law 1503 = .ok (.if_icmp .eq 133, 3) := by decide +kernel
theorem dL_law_1506 : decode cL_law 1506 = .ok (.iconst 0, 1) := by decide +kernel
theorem dL_law_1507 : decode cL_law 1507 = .ok (.ireturn, 1) := by decide +kernel
theorem dL_law_1508 : decode cL_law 1508 = .ok (.aload_n 1, 1) := by decide +kernel
theorem dL_law_1509 : decode cL_law 1509 = .ok (.aload_n 0, 1) := by decide +kernel
theorem dL_law_1510 : decode cL_law 1510 = .ok (.iload_n 3, 1) := by decide +kernel
theorem dL_law_1511 : decode cL_law 1511 = .ok (.iconst 1, 1) := by decide +kernel
theorem dL_law_1512 : decode cL_law 1512 = .ok (.iadd, 1) := by decide +kernel
theorem dL_law_1513 : decode cL_law 1513 = .ok (.iaload, 1) := by decide +kernel
theorem dL_law_1514 : decode cL_law 1514 = .ok (.aload_n 0, 1) := by decide +kernel
theorem dL_law_1515 : decode cL_law 1515 = .ok (.iload_n 3, 1) := by decide +kernel
theorem dL_law_1516 : decode cL_law 1516 = .ok (.iconst 2, 1) := by decide +kernel
theorem dL_law_1517 : decode cL_law 1517 = .ok (.iadd, 1) := by decide +kernel
theorem dL_law_1518 : decode cL_law 1518 = .ok (.iaload, 1) := by decide +kernel
theorem dL_law_1519 : decode cL_law 1519 = .ok (.invokevirtual 171, 3) := by decide +kernel
theorem dL_law_1522 : decode cL_law 1522 = .ok (.aload_n 2, 1) := by decide +kernel
theorem dL_law_1523 : decode cL_law 1523 = .ok (.aload_n 0, 1) := by decide +kernel
theorem dL_law_1524 : decode cL_law 1524 = .ok (.iload_n 3, 1) := by decide +kernel
theorem dL_law_1525 : decode cL_law 1525 = .ok (.iconst 1, 1) := by decide +kernel
theorem dL_law_1526 : decode cL_law 1526 = .ok (.iadd, 1) := by decide +kernel
theorem dL_law_1527 : decode cL_law 1527 = .ok (.iaload, 1) := by decide +kernel
theorem dL_law_1528 : decode cL_law 1528 = .ok (.aload_n 0, 1) := by decide +kernel
theorem dL_law_1529 : decode cL_law 1529 = .ok (.iload_n 3, 1) := by decide +kernel
theorem dL_law_1530 : decode cL_law 1530 = .ok (.iconst 2, 1) := by decide +kernel
theorem dL_law_1531 : decode cL_law 1531 = .ok (.iadd, 1) := by decide +kernel
theorem dL_law_1532 : decode cL_law 1532 = .ok (.iaload, 1) := by decide +kernel
theorem dL_law_1533 : decode cL_law 1533 = .ok (.invokevirtual 174, 3) := by decide +kernel
theorem dL_law_1536 : decode cL_law 1536 = .ok (.if_icmp .eq 100, 3) := by decide +kernel
theorem dL_law_1539 : decode cL_law 1539 = .ok (.iconst 0, 1) := by decide +kernel
theorem dL_law_1540 : decode cL_law 1540 = .ok (.ireturn, 1) := by decide +kernel
theorem dL_law_1541 : decode cL_law 1541 = .ok (.aload_n 1, 1) := by decide +kernel
theorem dL_law_1542 : decode cL_law 1542 = .ok (.aload_n 0, 1) := by decide +kernel
theorem dL_law_1543 : decode cL_law 1543 = .ok (.iload_n 3, 1) := by decide +kernel
theorem dL_law_1544 : decode cL_law 1544 = .ok (.iconst 1, 1) := by decide +kernel
theorem dL_law_1545 : decode cL_law 1545 = .ok (.iadd, 1) := by decide +kernel
theorem dL_law_1546 : decode cL_law 1546 = .ok (.iaload, 1) := by decide +kernel
theorem dL_law_1547 : decode cL_law 1547 = .ok (.invokevirtual 175, 3) := by decide +kernel
theorem dL_law_1550 : decode cL_law 1550 = .ok (.aload_n 2, 1) := by decide +kernel
theorem dL_law_1551 : decode cL_law 1551 = .ok (.aload_n 0, 1) := by decide +kernel
theorem dL_law_1552 : decode cL_law 1552 = .ok (.iload_n 3, 1) := by decide +kernel
theorem dL_law_1553 : decode cL_law 1553 = .ok (.iconst 1, 1) := by decide +kernel
theorem dL_law_1554 : decode cL_law 1554 = .ok (.iadd, 1) := by decide +kernel
theorem dL_law_1555 : decode cL_law 1555 = .ok (.iaload, 1) := by decide +kernel
theorem dL_law_1556 : decode cL_law 1556 = .ok (.invokevirtual 178, 3) := by decide +kernel
theorem dL_law_1559 : decode cL_law 1559 = .ok (.if_icmp .eq 77, 3) := by decide +kernel
theorem dL_law_1562 : decode cL_law 1562 = .ok (.iconst 0, 1) := by decide +kernel
theorem dL_law_1563 : decode cL_law 1563 = .ok (.ireturn, 1) := by decide +kernel
theorem dL_law_1564 : decode cL_law 1564 = .ok (.aload_n 1, 1) := by decide +kernel
theorem dL_law_1565 : decode cL_law 1565 = .ok (.aload_n 0, 1) := by decide +kernel
theorem dL_law_1566 : decode cL_law 1566 = .ok (.iload_n 3, 1) := by decide +kernel
theorem dL_law_1567 : decode cL_law 1567 = .ok (.iconst 1, 1) := by decide +kernel
theorem dL_law_1568 : decode cL_law 1568 = .ok (.iadd, 1) := by decide +kernel
theorem dL_law_1569 : decode cL_law 1569 = .ok (.iaload, 1) := by decide +kernel
theorem dL_law_1570 : decode cL_law 1570 = .ok (.invokevirtual 179, 3) := by decide +kernel
theorem dL_law_1573 : decode cL_law 1573 = .ok (.aload_n 2, 1) := by decide +kernel
theorem dL_law_1574 : decode cL_law 1574 = .ok (.aload_n 0, 1) := by decide +kernel
theorem dL_law_1575 : decode cL_law 1575 = .ok (.iload_n 3, 1) := by decide +kernel
theorem dL_law_1576 : decode cL_law 1576 = .ok (.iconst 1, 1) := by decide +kernel
theorem dL_law_1577 : decode cL_law 1577 = .ok (.iadd, 1) := by decide +kernel
theorem dL_law_1578 : decode cL_law 1578 = .ok (.iaload, 1) := by decide +kernel
theorem dL_law_1579 : decode cL_law 1579 = .ok (.invokevirtual 182, 3) := by decide +kernel
theorem dL_law_1582 : decode cL_law 1582 = .ok (.if_icmp .eq 54, 3) := by decide +kernel
theorem dL_law_1585 : decode cL_law 1585 = .ok (.iconst 0, 1) := by decide +kernel
theorem dL_law_1586 : decode cL_law 1586 = .ok (.ireturn, 1) := by decide +kernel
theorem dL_law_1587 : decode cL_law 1587 = .ok (.aload_n 1, 1) := by decide +kernel
theorem dL_law_1588 : decode cL_law 1588 = .ok (.invokevirtual 183, 3) := by decide +kernel
theorem dL_law_1591 : decode cL_law 1591 = .ok (.aload_n 2, 1) := by decide +kernel
theorem dL_law_1592 : decode cL_law 1592 = .ok (.invokevirtual 186, 3) := by decide +kernel
theorem dL_law_1595 : decode cL_law 1595 = .ok (.if_icmp .eq 41, 3) := by decide +kernel
theorem dL_law_1598 : decode cL_law 1598 = .ok (.iconst 0, 1) := by decide +kernel
theorem dL_law_1599 : decode cL_law 1599 = .ok (.ireturn, 1) := by decide +kernel
theorem dL_law_1600 : decode cL_law 1600 = .ok (.aload_n 1, 1) := by decide +kernel
theorem dL_law_1601 : decode cL_law 1601 = .ok (.invokevirtual 187, 3) := by decide +kernel
theorem dL_law_1604 : decode cL_law 1604 = .ok (.aload_n 2, 1) := by decide +kernel
theorem dL_law_1605 : decode cL_law 1605 = .ok (.invokevirtual 190, 3) := by decide +kernel
theorem dL_law_1608 : decode cL_law 1608 = .ok (.if_icmp .eq 28, 3) := by decide +kernel
theorem dL_law_1611 : decode cL_law 1611 = .ok (.iconst 0, 1) := by decide +kernel
theorem dL_law_1612 : decode cL_law 1612 = .ok (.ireturn, 1) := by decide +kernel
theorem dL_law_1613 : decode cL_law 1613 = .ok (.aload_n 1, 1) := by decide +kernel
theorem dL_law_1614 : decode cL_law 1614 = .ok (.aload_n 0, 1) := by decide +kernel
theorem dL_law_1615 : decode cL_law 1615 = .ok (.iload_n 3, 1) := by decide +kernel
theorem dL_law_1616 : decode cL_law 1616 = .ok (.iconst 1, 1) := by decide +kernel
theorem dL_law_1617 : decode cL_law 1617 = .ok (.iadd, 1) := by decide +kernel
theorem dL_law_1618 : decode cL_law 1618 = .ok (.iaload, 1) := by decide +kernel
theorem dL_law_1619 : decode cL_law 1619 = .ok (.invokevirtual 191, 3) := by decide +kernel
theorem dL_law_1622 : decode cL_law 1622 = .ok (.aload_n 2, 1) := by decide +kernel
theorem dL_law_1623 : decode cL_law 1623 = .ok (.aload_n 0, 1) := by decide +kernel
theorem dL_law_1624 : decode cL_law 1624 = .ok (.iload_n 3, 1) := by decide +kernel
theorem dL_law_1625 : decode cL_law 1625 = .ok (.iconst 1, 1) := by decide +kernel
theorem dL_law_1626 : decode cL_law 1626 = .ok (.iadd, 1) := by decide +kernel
theorem dL_law_1627 : decode cL_law 1627 = .ok (.iaload, 1) := by decide +kernel
theorem dL_law_1628 : decode cL_law 1628 = .ok (.invokevirtual 194, 3) := by decide +kernel
theorem dL_law_1631 : decode cL_law 1631 = .ok (.if_icmp .eq 5, 3) := by decide +kernel
theorem dL_law_1634 : decode cL_law 1634 = .ok (.iconst 0, 1) := by decide +kernel
theorem dL_law_1635 : decode cL_law 1635 = .ok (.ireturn, 1) := by decide +kernel
theorem dL_law_1636 : decode cL_law 1636 = .ok (.iinc 3 6, 3) := by decide +kernel
theorem dL_law_1639 : decode cL_law 1639 = .ok (.goto (-1621), 3) := by decide +kernel
theorem dL_law_1642 : decode cL_law 1642 = .ok (.iconst 1, 1) := by decide +kernel
theorem dL_law_1643 : decode cL_law 1643 = .ok (.ireturn, 1) := by decide +kernel
end
section
/-! the memory as numbers: cell a, place j; the shape of the cells never changes after the constructors -/
abbrev mm : Type := Nat → Nat → Int32
abbrev av : Type := Int32 ⊕ Nat
def gw : List Cond := lw_tbl.filter goodWord
theorem gw_in {w : Cond} (h : w ∈ lw_tbl) (hg : goodWord w = true) : w ∈ gw := List.mem_filter.mpr ⟨h, hg⟩
theorem gw_tb {w : Cond} (i : Nat) (h : tables_1[i]? = some w) (hg : goodWord w = true) : w ∈ gw := gw_in (List.mem_append_right _ (List.mem_of_getElem? h)) hg
theorem gw_pv {w : Cond} (i : Nat) (h : (k2_sels lw_privs)[i]? = some w) (hg : goodWord w = true) : w ∈ gw := gw_in (List.mem_append_left _ (List.mem_of_getElem? h)) hg
theorem gw_good {big : List Cond} (h : ∀ w ∈ gw, w ∈ big) (ws : List Cond) (hw : ∀ w ∈ ws, w ∈ gw) : GoodIn big ws := fun w q => ⟨h w (hw w q), good_of_word (List.mem_filter.mp (hw w q)).2⟩
abbrev shp : Type := (Nat × Nat × Option (Nat → Nat)) ⊕ (Nat × List (Option Nat))

def shL : List shp := [
  .inr (6, [some 1, some 33, some 38, some 47, some 56, none, some 65, some 74, some 90, none, some 91]),
  .inr (1, [some 2, some 3, some 4]),
  .inl (4, 14, some (fun j => 5 + 2 * j)),
  .inl (0, 6, none),
  .inl (0, 96, none),
  .inr (5, [none, none, none, some 6]),
  .inl (0, 96, none),
  .inr (5, [none, none, none, some 8]),
  .inl (0, 96, none),
  .inr (5, [none, none, none, some 10]),
  .inl (0, 96, none),
  .inr (5, [none, none, none, some 12]),
  .inl (0, 96, none),
  .inr (5, [none, none, none, some 14]),
  .inl (0, 96, none),
  .inr (5, [none, none, none, some 16]),
  .inl (0, 96, none),
  .inr (5, [none, none, none, some 18]),
  .inl (0, 96, none),
  .inr (5, [none, none, none, some 20]),
  .inl (0, 96, none),
  .inr (5, [none, none, none, some 22]),
  .inl (0, 96, none),
  .inr (5, [none, none, none, some 24]),
  .inl (0, 96, none),
  .inr (5, [none, none, none, some 26]),
  .inl (0, 96, none),
  .inr (5, [none, none, none, some 28]),
  .inl (0, 96, none),
  .inr (5, [none, none, none, some 30]),
  .inl (0, 96, none),
  .inr (5, [none, none, none, some 32]),
  .inl (0, 96, none),
  .inr (2, [some 34, none, some 35, none, none, none, none, some 37, none, none, none]),
  .inl (1, 96, none),
  .inr (5, [none, none, none, some 36]),
  .inl (0, 96, none),
  .inl (0, 96, none),
  .inr (0, [some 1, none, some 39, some 40, some 41, some 42, some 43, some 44, some 45, none, none, none, none, none, none, some 46]),
  .inl (0, 8, none),
  .inl (0, 8, none),
  .inl (0, 8, none),
  .inl (0, 8, none),
  .inl (0, 48, none),
  .inl (0, 6, none),
  .inl (0, 6, none),
  .inl (0, 3, none),
  .inr (0, [some 1, none, some 48, some 49, some 50, some 51, some 52, some 53, some 54, none, none, none, none, none, none, some 55]),
  .inl (0, 8, none),
  .inl (0, 8, none),
  .inl (0, 8, none),
  .inl (0, 8, none),
  .inl (0, 48, none),
  .inl (0, 6, none),
  .inl (0, 6, none),
  .inl (0, 3, none),
  .inr (0, [some 1, none, some 57, some 58, some 59, some 60, some 61, some 62, some 63, none, none, none, none, none, none, some 64]),
  .inl (0, 8, none),
  .inl (0, 8, none),
  .inl (0, 8, none),
  .inl (0, 8, none),
  .inl (0, 48, none),
  .inl (0, 6, none),
  .inl (0, 6, none),
  .inl (0, 3, none),
  .inl (5, 4, some (fun j => 66 + 2 * j)),
  .inr (3, [none, none, some 67]),
  .inl (0, 24, none),
  .inr (3, [none, none, some 69]),
  .inl (0, 24, none),
  .inr (3, [none, none, some 71]),
  .inl (0, 24, none),
  .inr (3, [none, none, some 73]),
  .inl (0, 24, none),
  .inl (6, 5, some (fun j => 75 + 3 * j)),
  .inr (4, [none, none, none, some 76]),
  .inr (3, [none, none, some 77]),
  .inl (0, 24, none),
  .inr (4, [none, none, none, some 79]),
  .inr (3, [none, none, some 80]),
  .inl (0, 24, none),
  .inr (4, [none, none, none, some 82]),
  .inr (3, [none, none, some 83]),
  .inl (0, 24, none),
  .inr (4, [none, none, none, some 85]),
  .inr (3, [none, none, some 86]),
  .inl (0, 24, none),
  .inr (4, [none, none, none, some 88]),
  .inr (3, [none, none, some 89]),
  .inl (0, 24, none),
  .inl (0, 60, none),
  .inl (0, 6, none),
  .inr (7, [some 93, some 94, some 95, none, some 96, some 97, none, none, none, none, none, none, none, some 98, some 99, some 100, none, none, some 101, none, some 102, some 103, some 104, some 105, some 106, some 107, some 108, some 109, some 110, some 111, some 112, some 113, none]),
  .inl (0, 1471, none),
  .inl (0, 1471, none),
  .inl (0, 1471, none),
  .inl (0, 6, none),
  .inl (0, 96, none),
  .inl (3, 11, none),
  .inl (0, 4, none),
  .inl (0, 96, none),
  .inl (0, 96, none),
  .inl (2, 10, none),
  .inl (0, 96, none),
  .inl (0, 4, none),
  .inl (0, 4, none),
  .inl (0, 4, none),
  .inl (0, 96, none),
  .inl (0, 5, none),
  .inl (0, 5, none),
  .inl (0, 5, none),
  .inl (0, 120, none),
  .inl (0, 24, none),
  .inl (0, 60, none)
]
def sh (a : Nat) : shp := shL.getD a (.inr (99, []))
abbrev NC : Nat := 114
theorem sh_lt {a : Nat} {x : shp} (h : sh a = x) (hx : x ≠ .inr (99, [])) : a < NC := by
  by_cases ha : a < NC
  · exact ha
  · exfalso; apply hx; rw [← h]; unfold sh; rw [List.getD_eq_getElem?_getD, List.getElem?_eq_none (by show 114 ≤ a; exact Nat.le_of_not_lt ha)]; rfl
theorem sh_0 : sh 0 = .inr (6, [some 1, some 33, some 38, some 47, some 56, none, some 65, some 74, some 90, none, some 91]) := rfl
theorem sh_1 : sh 1 = .inr (1, [some 2, some 3, some 4]) := rfl
theorem sh_2 : sh 2 = .inl (4, 14, some (fun j => 5 + 2 * j)) := rfl
theorem sh_3 : sh 3 = .inl (0, 6, none) := rfl
theorem sh_4 : sh 4 = .inl (0, 96, none) := rfl
theorem sh_5 : sh 5 = .inr (5, [none, none, none, some 6]) := rfl
theorem sh_6 : sh 6 = .inl (0, 96, none) := rfl
theorem sh_7 : sh 7 = .inr (5, [none, none, none, some 8]) := rfl
theorem sh_8 : sh 8 = .inl (0, 96, none) := rfl
theorem sh_9 : sh 9 = .inr (5, [none, none, none, some 10]) := rfl
theorem sh_10 : sh 10 = .inl (0, 96, none) := rfl
theorem sh_11 : sh 11 = .inr (5, [none, none, none, some 12]) := rfl
theorem sh_12 : sh 12 = .inl (0, 96, none) := rfl
theorem sh_13 : sh 13 = .inr (5, [none, none, none, some 14]) := rfl
theorem sh_14 : sh 14 = .inl (0, 96, none) := rfl
theorem sh_15 : sh 15 = .inr (5, [none, none, none, some 16]) := rfl
theorem sh_16 : sh 16 = .inl (0, 96, none) := rfl
theorem sh_17 : sh 17 = .inr (5, [none, none, none, some 18]) := rfl
theorem sh_18 : sh 18 = .inl (0, 96, none) := rfl
theorem sh_19 : sh 19 = .inr (5, [none, none, none, some 20]) := rfl
theorem sh_20 : sh 20 = .inl (0, 96, none) := rfl
theorem sh_21 : sh 21 = .inr (5, [none, none, none, some 22]) := rfl
theorem sh_22 : sh 22 = .inl (0, 96, none) := rfl
theorem sh_23 : sh 23 = .inr (5, [none, none, none, some 24]) := rfl
theorem sh_24 : sh 24 = .inl (0, 96, none) := rfl
theorem sh_25 : sh 25 = .inr (5, [none, none, none, some 26]) := rfl
theorem sh_26 : sh 26 = .inl (0, 96, none) := rfl
theorem sh_27 : sh 27 = .inr (5, [none, none, none, some 28]) := rfl
theorem sh_28 : sh 28 = .inl (0, 96, none) := rfl
theorem sh_29 : sh 29 = .inr (5, [none, none, none, some 30]) := rfl
theorem sh_30 : sh 30 = .inl (0, 96, none) := rfl
theorem sh_31 : sh 31 = .inr (5, [none, none, none, some 32]) := rfl
theorem sh_32 : sh 32 = .inl (0, 96, none) := rfl
theorem sh_33 : sh 33 = .inr (2, [some 34, none, some 35, none, none, none, none, some 37, none, none, none]) := rfl
theorem sh_34 : sh 34 = .inl (1, 96, none) := rfl
theorem sh_35 : sh 35 = .inr (5, [none, none, none, some 36]) := rfl
theorem sh_36 : sh 36 = .inl (0, 96, none) := rfl
theorem sh_37 : sh 37 = .inl (0, 96, none) := rfl
theorem sh_38 : sh 38 = .inr (0, [some 1, none, some 39, some 40, some 41, some 42, some 43, some 44, some 45, none, none, none, none, none, none, some 46]) := rfl
theorem sh_39 : sh 39 = .inl (0, 8, none) := rfl
theorem sh_40 : sh 40 = .inl (0, 8, none) := rfl
theorem sh_41 : sh 41 = .inl (0, 8, none) := rfl
theorem sh_42 : sh 42 = .inl (0, 8, none) := rfl
theorem sh_43 : sh 43 = .inl (0, 48, none) := rfl
theorem sh_44 : sh 44 = .inl (0, 6, none) := rfl
theorem sh_45 : sh 45 = .inl (0, 6, none) := rfl
theorem sh_46 : sh 46 = .inl (0, 3, none) := rfl
theorem sh_47 : sh 47 = .inr (0, [some 1, none, some 48, some 49, some 50, some 51, some 52, some 53, some 54, none, none, none, none, none, none, some 55]) := rfl
theorem sh_48 : sh 48 = .inl (0, 8, none) := rfl
theorem sh_49 : sh 49 = .inl (0, 8, none) := rfl
theorem sh_50 : sh 50 = .inl (0, 8, none) := rfl
theorem sh_51 : sh 51 = .inl (0, 8, none) := rfl
theorem sh_52 : sh 52 = .inl (0, 48, none) := rfl
theorem sh_53 : sh 53 = .inl (0, 6, none) := rfl
theorem sh_54 : sh 54 = .inl (0, 6, none) := rfl
theorem sh_55 : sh 55 = .inl (0, 3, none) := rfl
theorem sh_56 : sh 56 = .inr (0, [some 1, none, some 57, some 58, some 59, some 60, some 61, some 62, some 63, none, none, none, none, none, none, some 64]) := rfl
theorem sh_57 : sh 57 = .inl (0, 8, none) := rfl
theorem sh_58 : sh 58 = .inl (0, 8, none) := rfl
theorem sh_59 : sh 59 = .inl (0, 8, none) := rfl
theorem sh_60 : sh 60 = .inl (0, 8, none) := rfl
theorem sh_61 : sh 61 = .inl (0, 48, none) := rfl
theorem sh_62 : sh 62 = .inl (0, 6, none) := rfl
theorem sh_63 : sh 63 = .inl (0, 6, none) := rfl
theorem sh_64 : sh 64 = .inl (0, 3, none) := rfl
theorem sh_65 : sh 65 = .inl (5, 4, some (fun j => 66 + 2 * j)) := rfl
theorem sh_66 : sh 66 = .inr (3, [none, none, some 67]) := rfl
theorem sh_67 : sh 67 = .inl (0, 24, none) := rfl
theorem sh_68 : sh 68 = .inr (3, [none, none, some 69]) := rfl
theorem sh_69 : sh 69 = .inl (0, 24, none) := rfl
theorem sh_70 : sh 70 = .inr (3, [none, none, some 71]) := rfl
theorem sh_71 : sh 71 = .inl (0, 24, none) := rfl
theorem sh_72 : sh 72 = .inr (3, [none, none, some 73]) := rfl
theorem sh_73 : sh 73 = .inl (0, 24, none) := rfl
theorem sh_74 : sh 74 = .inl (6, 5, some (fun j => 75 + 3 * j)) := rfl
theorem sh_75 : sh 75 = .inr (4, [none, none, none, some 76]) := rfl
theorem sh_76 : sh 76 = .inr (3, [none, none, some 77]) := rfl
theorem sh_77 : sh 77 = .inl (0, 24, none) := rfl
theorem sh_78 : sh 78 = .inr (4, [none, none, none, some 79]) := rfl
theorem sh_79 : sh 79 = .inr (3, [none, none, some 80]) := rfl
theorem sh_80 : sh 80 = .inl (0, 24, none) := rfl
theorem sh_81 : sh 81 = .inr (4, [none, none, none, some 82]) := rfl
theorem sh_82 : sh 82 = .inr (3, [none, none, some 83]) := rfl
theorem sh_83 : sh 83 = .inl (0, 24, none) := rfl
theorem sh_84 : sh 84 = .inr (4, [none, none, none, some 85]) := rfl
theorem sh_85 : sh 85 = .inr (3, [none, none, some 86]) := rfl
theorem sh_86 : sh 86 = .inl (0, 24, none) := rfl
theorem sh_87 : sh 87 = .inr (4, [none, none, none, some 88]) := rfl
theorem sh_88 : sh 88 = .inr (3, [none, none, some 89]) := rfl
theorem sh_89 : sh 89 = .inl (0, 24, none) := rfl
theorem sh_90 : sh 90 = .inl (0, 60, none) := rfl
theorem sh_91 : sh 91 = .inl (0, 6, none) := rfl
theorem sh_92 : sh 92 = .inr (7, [some 93, some 94, some 95, none, some 96, some 97, none, none, none, none, none, none, none, some 98, some 99, some 100, none, none, some 101, none, some 102, some 103, some 104, some 105, some 106, some 107, some 108, some 109, some 110, some 111, some 112, some 113, none]) := rfl
theorem sh_93 : sh 93 = .inl (0, 1471, none) := rfl
theorem sh_94 : sh 94 = .inl (0, 1471, none) := rfl
theorem sh_95 : sh 95 = .inl (0, 1471, none) := rfl
theorem sh_96 : sh 96 = .inl (0, 6, none) := rfl
theorem sh_97 : sh 97 = .inl (0, 96, none) := rfl
theorem sh_98 : sh 98 = .inl (3, 11, none) := rfl
theorem sh_99 : sh 99 = .inl (0, 4, none) := rfl
theorem sh_100 : sh 100 = .inl (0, 96, none) := rfl
theorem sh_101 : sh 101 = .inl (0, 96, none) := rfl
theorem sh_102 : sh 102 = .inl (2, 10, none) := rfl
theorem sh_103 : sh 103 = .inl (0, 96, none) := rfl
theorem sh_104 : sh 104 = .inl (0, 4, none) := rfl
theorem sh_105 : sh 105 = .inl (0, 4, none) := rfl
theorem sh_106 : sh 106 = .inl (0, 4, none) := rfl
theorem sh_107 : sh 107 = .inl (0, 96, none) := rfl
theorem sh_108 : sh 108 = .inl (0, 5, none) := rfl
theorem sh_109 : sh 109 = .inl (0, 5, none) := rfl
theorem sh_110 : sh 110 = .inl (0, 5, none) := rfl
theorem sh_111 : sh 111 = .inl (0, 120, none) := rfl
theorem sh_112 : sh 112 = .inl (0, 24, none) := rfl
theorem sh_113 : sh 113 = .inl (0, 60, none) := rfl

/-- the env: where the cells lie (ad), the array classes, the classes and the slots of fields -/
abbrev ev : Type := Launch × Nat × (Nat → Nat) × (Nat → ClassId) × va_G
abbrev eL (E : ev) : Launch := E.1
abbrev eB (E : ev) : Nat := E.2.1
abbrev eA (E : ev) : Nat → Nat := E.2.2.1
abbrev eC (E : ev) : Nat → ClassId := E.2.2.2.1
abbrev eD (E : ev) : va_G := E.2.2.2.2
def rv (E : ev) : av → Value
  | .inl x => .int x
  | .inr k => .ref (eA E k)
def wa (M : mm) (a : Nat) (f : Nat → Int32) : mm := fun a' => if a' = a then f else M a'
def wr (M : mm) (a j : Nat) (v : Int32) : mm := wa M a (upd (M a) j v)
def fv (E : ev) (M : mm) (a : Nat) (q : Option Nat × Nat) : Value := match q.1 with
  | none => .int (M a q.2)
  | some r => .ref (eA E r)
def ceS (E : ev) (M : mm) (a : Nat) (x : shp) : va_E := match x with
  | .inl (t, n, none) => .inl (eC E t, n, .inl (M a))
  | .inl (t, n, some g) => .inl (eC E t, n, .inr (.inr (.inr (.inr (fun j => some (eA E (g j)))))))
  | .inr (ci, fs) => .inr (ci, fs.zipIdx.map (fv E M a))
def ce (E : ev) (M : mm) (a : Nat) : va_E := ceS E M a (sh a)
def wl (E : ev) (M : mm) : va_W := (List.range NC).map fun k => (eA E k, ce E M k)
theorem wl_at (E : ev) (M : mm) {a : Nat} (h : a < NC) : (wl E M)[a]? = some (eA E a, ce E M a) := by
  unfold wl
  rw [List.getElem?_map, List.getElem?_range h]
  rfl
theorem wl_len (E : ev) (M : mm) : (wl E M).length = NC := by unfold wl; simp
theorem wl_set (E : ev) (M M' : mm) {a : Nat} {x : va_E} (hx : ce E M' a = x) (ho : ∀ b, b ≠ a → M' b = M b) : (wl E M).set a (eA E a, x) = wl E M' := by
  apply List.ext_getElem?
  intro i
  by_cases hi : i < NC
  · by_cases e : i = a
    · subst e
      rw [List.getElem?_set_self (by rw [wl_len]; exact hi), wl_at E M' hi, hx]
    · rw [List.getElem?_set_ne (Ne.symm e), wl_at E M hi, wl_at E M' hi]
      have hm := ho i e
      have hc : ce E M i = ce E M' i := by
        unfold ce
        generalize sh i = q
        unfold ceS
        split
        · rw [hm]
        · rfl
        · congr 1
          have hf : fv E M i = fv E M' i := by
            funext q
            unfold fv
            rw [hm]
          rw [hf]
      rw [hc]
  · rw [List.getElem?_eq_none (by rw [List.length_set, wl_len]; exact Nat.le_of_not_lt hi), List.getElem?_eq_none (by rw [wl_len]; exact Nat.le_of_not_lt hi)]
theorem wa_ne {M : mm} {a b : Nat} {f : Nat → Int32} (h : b ≠ a) : wa M a f b = M b := if_neg h
theorem wa_at {M : mm} {a : Nat} {f : Nat → Int32} : wa M a f a = f := if_pos rfl
theorem wr_ne {M : mm} {a b j : Nat} {v : Int32} (h : b ≠ a) : wr M a j v b = M b := if_neg h
theorem wr_at {M : mm} {a j : Nat} {v : Int32} : wr M a j v a = upd (M a) j v := if_pos rfl
theorem wl_arr (E : ev) (M : mm) {a t n j : Nat} {v : Int32} (h : sh a = .inl (t, n, none)) : (wl E M).set a (eA E a, .inl (eC E t, n, .inl (upd (M a) j v))) = wl E (wr M a j v) := by
  refine wl_set E M _ ?_ (fun b hb => wr_ne hb)
  unfold ce
  rw [h]
  show Sum.inl (eC E t, n, Sum.inl (wr M a j v a)) = _
  rw [wr_at]
theorem wl_arrA (E : ev) (M : mm) {a t n : Nat} {f : Nat → Int32} (h : sh a = .inl (t, n, none)) : (wl E M).set a (eA E a, .inl (eC E t, n, .inl f)) = wl E (wa M a f) := by
  refine wl_set E M _ ?_ (fun b hb => wa_ne hb)
  unfold ce
  rw [h]
  show Sum.inl (eC E t, n, Sum.inl (wa M a f a)) = _
  rw [wa_at]
theorem fz_at (E : ev) (M : mm) (a : Nat) {fs : List (Option Nat)} {k : Nat} {x : Option Nat} (h : fs[k]? = some x) : (fs.zipIdx.map (fv E M a))[k]? = some (fv E M a (x, k)) := by
  rw [List.getElem?_map, List.getElem?_zipIdx, h]
  simp
theorem fz_set (E : ev) (M : mm) {a k : Nat} {fs : List (Option Nat)} {v : Int32} (h : fs[k]? = some none) : (fs.zipIdx.map (fv E M a)).set k (.int v) = fs.zipIdx.map (fv E (wr M a k v) a) := by
  apply List.ext_getElem?
  intro i
  have hk := (List.getElem?_eq_some_iff.mp h).1
  by_cases hi : i < fs.length
  · obtain ⟨x, hx⟩ : ∃ x, fs[i]? = some x := ⟨_, List.getElem?_eq_getElem hi⟩
    rw [fz_at E (wr M a k v) a hx]
    by_cases e : i = k
    · subst e
      rw [List.getElem?_set_self (by simp; exact hk)]
      rw [h] at hx
      cases hx
      show _ = some (Value.int (wr M a i v a i))
      rw [wr_at]
      simp [upd]
    · rw [List.getElem?_set_ne (Ne.symm e), fz_at E M a hx]
      unfold fv
      cases x with
      | none => show some (Value.int (M a i)) = some (Value.int (wr M a k v a i)); rw [wr_at]; simp [upd, e]
      | some r => rfl
  · rw [List.getElem?_eq_none (by simp; omega), List.getElem?_eq_none (by simp; omega)]
theorem wl_obj (E : ev) (M : mm) {a ci k : Nat} {fs : List (Option Nat)} {v : Int32} (h : sh a = .inr (ci, fs)) (hk : fs[k]? = some none) : (wl E M).set a (eA E a, .inr (ci, (fs.zipIdx.map (fv E M a)).set k (.int v))) = wl E (wr M a k v) := by
  refine wl_set E M _ ?_ (fun b hb => wr_ne hb)
  unfold ce
  rw [h, fz_set E M hk]
  rfl
def aty : List FieldType := [.int, .byte, .boolean, .char, .object "HearsaySeeds$Text", .object "HearsaySeeds$Sheet", .object "HearsaySeeds$Slot"]
def tys (E : ev) : List (ClassId × FieldType) := aty.zipIdx.map fun q => (eC E q.2, q.1)
theorem tys_at (E : ev) {t : Nat} {ty : FieldType} (h : aty[t]? = some ty) : (tys E)[t]? = some (eC E t, ty) := by
  unfold tys
  rw [List.getElem?_map, List.getElem?_zipIdx, h]
  simp
def Az (E : ev) : Nat → Prop := fun q => eB E ≤ q
/-- where the cells lie: from eB on, one behind the other -/
def Lie (E : ev) : Prop := ∀ k, k < NC → eA E k = eB E + k
theorem wl_D {E : ev} (h : Lie E) (M : mm) : va_D (Az E) (wl E M) := by
  have key : ∀ (i : Nat) (q : Nat × va_E), (wl E M)[i]? = some q → i < NC ∧ q.1 = eB E + i := by
    intro i q hq
    have hl : i < NC := by have := (List.getElem?_eq_some_iff.mp hq).1; rw [wl_len] at this; exact this
    rw [wl_at E M hl] at hq
    cases hq
    exact ⟨hl, h i hl⟩
  refine ⟨fun i j x y hi hj hxy => ?_, fun k q hk => ?_⟩
  · obtain ⟨-, a1⟩ := key i x hi
    obtain ⟨-, b1⟩ := key j y hj
    omega
  · obtain ⟨-, a1⟩ := key k q hk
    show eB E ≤ q.1
    omega
def tabW : Nat → Int32 := fun j => ([2, 1, 5, 3, 4, 1] : List Int32).getD j 0
def tabA : Nat → Int32 := fun j => ([-1, 0, 0, 1, 2, 0] : List Int32).getD j 0
/-- the two static tables: cells 200 and 201 -/
def SF (E : ev) (s : State) (H : Heap) : Prop := (va_Z "HearsaySeeds" "WEIGHS" "[I" (.ref (eA E 200)) (Az E) s H ∧ va_T .int (eA E 200) 6 (fun j => .int (tabW j)) (Az E) s H) ∧ (va_Z "HearsaySeeds" "ABOVE" "[I" (.ref (eA E 201)) (Az E) s H ∧ va_T .int (eA E 201) 6 (fun j => .int (tabA j)) (Az E) s H)
theorem SF.moved {E : ev} {u U : State} {H : Heap} (hvm : u.vm.Alike U.vm) (h : SF E u H) : SF E U H := ⟨⟨h.1.1.moved hvm, h.1.2.moved hvm⟩, ⟨h.2.1.moved hvm, h.2.2.moved hvm⟩⟩
theorem SF.kept {E : ev} {s : State} {H H1 : Heap} (h : SF E s H) (hq : ∀ a : Nat, a < H.size → ¬ Az E a → H1[a]? = H[a]?) : SF E s H1 := ⟨⟨h.1.1.kept hq, h.1.2.kept hq⟩, ⟨h.2.1.kept hq, h.2.2.kept hq⟩⟩
def lz (E : ev) : Nat → List (Option av) → List (Nat × Value)
  | _, [] => []
  | i, none :: l => lz E (i + 1) l
  | i, some v :: l => (i, rv E v) :: lz E (i + 1) l
theorem lz_mem (E : ev) {q : Nat × Value} : ∀ (L : List (Option av)) (i : Nat), q ∈ lz E i L ↔ ∃ (j : Nat) (v : av), L[j]? = some (some v) ∧ q = (i + j, rv E v)
  | [], i => by simp [lz]
  | none :: l, i => by
    unfold lz
    rw [lz_mem E l (i + 1)]
    constructor
    · rintro ⟨j, v, h, e⟩
      exact ⟨j + 1, v, by simpa using h, by rw [e]; congr 1; omega⟩
    · rintro ⟨j, v, h, e⟩
      cases j with
      | zero => simp at h
      | succ j => exact ⟨j, v, by simpa using h, by rw [e]; congr 1; omega⟩
  | some w :: l, i => by
    unfold lz
    rw [List.mem_cons, lz_mem E l (i + 1)]
    constructor
    · rintro (e | ⟨j, v, h, e⟩)
      · exact ⟨0, w, by simp, e⟩
      · exact ⟨j + 1, v, by simpa using h, by rw [e]; congr 1; omega⟩
    · rintro ⟨j, v, h, e⟩
      cases j with
      | zero => simp at h; subst h; exact Or.inl e
      | succ j => exact Or.inr ⟨j, v, by simpa using h, by rw [e]; congr 1; omega⟩
def lh (E : ev) (ls : Array Slot) (nL : Nat) (L : List (Option av)) : Prop := lv_has ls nL (lz E 0 L)
theorem lh_at {E : ev} {ls : Array Slot} {nL i : Nat} {L : List (Option av)} {v : av} (h : lh E ls nL L) (hi : L[i]? = some (some v)) : ls[i]? = some (.val (rv E v)) := h.2.2 (i, rv E v) ((lz_mem E L 0).mpr ⟨i, v, hi, by simp⟩)
theorem rv_cat (E : ev) (v : av) : (rv E v).category = 1 := by cases v <;> rfl
theorem lh_set {E : ev} {ls' : Array Slot} {nL i : Nat} {L : List (Option av)} {v : av} (h : lv_has ls' nL ((i, rv E v) :: (lz E 0 L).filter (fun q => !(q.1 == i) && !(q.1 + 1 == i && q.2.category == 2)))) : lh E ls' nL (L.set i (some v)) := by
  refine ⟨h.1, h.2.1, fun q hq => h.2.2 q ?_⟩
  obtain ⟨j, w, hj, rfl⟩ := (lz_mem E _ 0).mp hq
  by_cases e : j = i
  · subst e
    rw [List.getElem?_set] at hj
    simp at hj
    obtain ⟨-, rfl⟩ := hj
    simp
  · rw [List.getElem?_set_ne (Ne.symm e)] at hj
    refine List.mem_cons_of_mem _ (List.mem_filter.mpr ⟨(lz_mem E L 0).mpr ⟨j, w, hj, rfl⟩, ?_⟩)
    have hc : ¬ (rv E w).category = 2 := by rw [rv_cat]; decide
    simp [e, hc]
theorem lh_sub {E : ev} {ls : Array Slot} {nL : Nat} {L L' : List (Option av)} (h : lh E ls nL L) (hs : ∀ (i : Nat) (v : av), L'[i]? = some (some v) → L[i]? = some (some v)) : lh E ls nL L' := by
  refine ⟨h.1, h.2.1, fun q hq => h.2.2 q ?_⟩
  obtain ⟨j, w, hj, rfl⟩ := (lz_mem E _ 0).mp hq
  exact (lz_mem E L 0).mpr ⟨j, w, hs j w hj, rfl⟩
def rm (d : Nat) : Room := { frames := d, cells := 0, slots := 0, locals := 32 * d }
abbrev qcT : Type := Array Value → State → Outcome → State → Prop
/-- what holds of the machine within a method y of code cc -/
def Cx (E : ev) (p : Program) (s : State) (m : MethodId) (args : Array Value) (meth : Method) (c : Code) (y : MethodName) (cc : ByteArray) (nL : Nat) (ret : Option FieldType) : Prop :=
  p.tables.exec = Jvm.exec ∧ c.code = cc ∧ c.maxLocals = nL ∧ meth.sig.returnType = ret ∧ s.vm.findClass y.cls = some m.cls ∧ (∀ w ∈ gw, w.before args s = true) ∧ meth.locks = false ∧ va_K (eD E) vwCl (tys E) s ∧ SF E s s.heap ∧ Lie E
def V (E : ev) (d : Nat) (y : MethodName) (cc : ByteArray) (nL : Nat) (ret : Option FieldType) (Qc : qcT) (pc : Nat) (L : List (Option av)) (S : List av) (M : mm) : Prop :=
  ∀ (p : Program) (e : Env) (s : State) (m : MethodId) (args : Array Value) (below : List Frame) (meth : Method) (c : Code) (H : Heap) (locs : List Loc) (ls : Array Slot),
    Cx E p s m args meth c y cc nL ret → va_P (eD E) vwCl (wl E M) H → va_S (Az E) s.heap H locs → lh E ls nL L →
    W p (eL E) e (rm d) s m args below meth c H locs 0 0 (MQ below Qc args s 0 0 (Az E)) (F0 m pc ls (S.map (rv E)))
/-- a read of field k0 of class ci by entry i of class own; a write likewise -/
def GF (own : String) (i ci k0 : Nat) : Prop := ∃ (C : String) (T : u_T) (N : Nat), (∀ w ∈ u_ws C T N, w ∈ gw) ∧ Cond.fieldLink own i (T k0).1 (T k0).2.1 (T k0).2.2.1 ∈ gw ∧ vwCl[ci]? = some (C, T, N) ∧ k0 < N
def PF (own : String) (i ci k0 : Nat) (ty : FieldType) : Prop := ∃ (C : String) (T : u_T) (N : Nat) (ty0 : Nat → FieldType), (∀ w ∈ u_ws C T N, w ∈ gw) ∧ (∀ k, k < N → parseFieldDescriptor (T k).2.2.1 = some (ty0 k)) ∧ (∀ a, a < N → ∀ b, b < N → a ≠ b → (T a).2.1 ≠ (T b).2.1) ∧ Cond.fieldLink own i (T k0).1 (T k0).2.1 (T k0).2.2.1 ∈ gw ∧ vwCl[ci]? = some (C, T, N) ∧ k0 < N ∧ (T k0).2.2.2 = false ∧ ty0 k0 = ty
section VR
variable {E : ev} {d : Nat} {y : MethodName} {cc : ByteArray} {nL : Nat} {ret : Option FieldType} {Qc : qcT} {pc : Nat} {L : List (Option av)} {S : List av} {M : mm}
theorem v_sub {L' : List (Option av)} (hs : ∀ (i : Nat) (v : av), L'[i]? = some (some v) → L[i]? = some (some v)) (k : V E d y cc nL ret Qc pc L' S M) : V E d y cc nL ret Qc pc L S M :=
  fun p e s m args below meth c H locs ls C hP hS hl => k p e s m args below meth c H locs ls C hP hS (lh_sub hl hs)
theorem v_top {x : Int32} (k : ∀ z, z = x → V E d y cc nL ret Qc pc L (.inl z :: S) M) : V E d y cc nL ret Qc pc L (.inl x :: S) M := k x rfl
theorem v_eq {x z : Int32} (h : x = z) (k : V E d y cc nL ret Qc pc L (.inl z :: S) M) : V E d y cc nL ret Qc pc L (.inl x :: S) M := h ▸ k
theorem v_mem {M' : mm} (h : M = M') (k : V E d y cc nL ret Qc pc L S M') : V E d y cc nL ret Qc pc L S M := h ▸ k

theorem v_iconst {n : Int} {x : Int32} (hd : decode cc pc = .ok (.iconst n, 1)) (hv : Int32.ofInt n = x) (k : V E d y cc nL ret Qc (pc + 1) L (.inl x :: S) M) : V E d y cc nL ret Qc pc L S M := by
  intro p e s m args below meth c H locs ls C hP hS hl
  exact lv_iconst C.1 C.2.1 hd hv (k p e s m args below meth c H locs ls C hP hS hl)
theorem v_bipush {n : Int} {x : Int32} (hd : decode cc pc = .ok (.bipush n, 2)) (hv : (Int8.ofInt n).toInt32 = x) (k : V E d y cc nL ret Qc (pc + 2) L (.inl x :: S) M) : V E d y cc nL ret Qc pc L S M := by
  intro p e s m args below meth c H locs ls C hP hS hl
  exact lv_bipush C.1 C.2.1 hd hv (k p e s m args below meth c H locs ls C hP hS hl)
theorem v_sipush {n : Int} {x : Int32} (hd : decode cc pc = .ok (.sipush n, 3)) (hv : (Int16.ofInt n).toInt32 = x) (k : V E d y cc nL ret Qc (pc + 3) L (.inl x :: S) M) : V E d y cc nL ret Qc pc L S M := by
  intro p e s m args below meth c H locs ls C hP hS hl
  exact lv_sipush C.1 C.2.1 hd hv (k p e s m args below meth c H locs ls C hP hS hl)
theorem v_ldc {i : Nat} {x : Int32} (hd : decode cc pc = .ok (.ldc i, 2)) (hw : Cond.constant y.cls i x ∈ gw) (k : V E d y cc nL ret Qc (pc + 2) L (.inl x :: S) M) : V E d y cc nL ret Qc pc L S M := by
  intro p e s m args below meth c H locs ls C hP hS hl
  exact lv_ldc C.1 C.2.1 C.2.2.2.2.1 (C.2.2.2.2.2.1 _ hw) hd (k p e s m args below meth c H locs ls C hP hS hl)
theorem v_ldcw {i : Nat} {x : Int32} (hd : decode cc pc = .ok (.ldc_w i, 3)) (hw : Cond.constant y.cls i x ∈ gw) (k : V E d y cc nL ret Qc (pc + 3) L (.inl x :: S) M) : V E d y cc nL ret Qc pc L S M := by
  intro p e s m args below meth c H locs ls C hP hS hl
  exact lv_ldcw C.1 C.2.1 C.2.2.2.2.1 (C.2.2.2.2.2.1 _ hw) hd (k p e s m args below meth c H locs ls C hP hS hl)
theorem v_iadd {x z : Int32} (hd : decode cc pc = .ok (.iadd, 1)) (k : V E d y cc nL ret Qc (pc + 1) L (.inl (x + z) :: S) M) : V E d y cc nL ret Qc pc L (.inl z :: .inl x :: S) M := by
  intro p e s m args below meth c H locs ls C hP hS hl
  exact lv_iadd C.1 C.2.1 hd (k p e s m args below meth c H locs ls C hP hS hl)
theorem v_isub {x z : Int32} (hd : decode cc pc = .ok (.isub, 1)) (k : V E d y cc nL ret Qc (pc + 1) L (.inl (x - z) :: S) M) : V E d y cc nL ret Qc pc L (.inl z :: .inl x :: S) M := by
  intro p e s m args below meth c H locs ls C hP hS hl
  exact lv_isub C.1 C.2.1 hd (k p e s m args below meth c H locs ls C hP hS hl)
theorem v_imul {x z : Int32} (hd : decode cc pc = .ok (.imul, 1)) (k : V E d y cc nL ret Qc (pc + 1) L (.inl (x * z) :: S) M) : V E d y cc nL ret Qc pc L (.inl z :: .inl x :: S) M := by
  intro p e s m args below meth c H locs ls C hP hS hl
  exact lv_imul C.1 C.2.1 hd (k p e s m args below meth c H locs ls C hP hS hl)
theorem v_iand {x z : Int32} (hd : decode cc pc = .ok (.iand, 1)) (k : V E d y cc nL ret Qc (pc + 1) L (.inl (x &&& z) :: S) M) : V E d y cc nL ret Qc pc L (.inl z :: .inl x :: S) M := by
  intro p e s m args below meth c H locs ls C hP hS hl
  exact lv_iand C.1 C.2.1 hd (k p e s m args below meth c H locs ls C hP hS hl)
theorem v_ior {x z : Int32} (hd : decode cc pc = .ok (.ior, 1)) (k : V E d y cc nL ret Qc (pc + 1) L (.inl (x ||| z) :: S) M) : V E d y cc nL ret Qc pc L (.inl z :: .inl x :: S) M := by
  intro p e s m args below meth c H locs ls C hP hS hl
  exact lv_ior C.1 C.2.1 hd (k p e s m args below meth c H locs ls C hP hS hl)
theorem v_ishl {x z : Int32} (hd : decode cc pc = .ok (.ishl, 1)) (k : V E d y cc nL ret Qc (pc + 1) L (.inl (x <<< (z &&& 31)) :: S) M) : V E d y cc nL ret Qc pc L (.inl z :: .inl x :: S) M := by
  intro p e s m args below meth c H locs ls C hP hS hl
  exact lv_ishl C.1 C.2.1 hd (k p e s m args below meth c H locs ls C hP hS hl)
theorem v_ishr {x z : Int32} (hd : decode cc pc = .ok (.ishr, 1)) (k : V E d y cc nL ret Qc (pc + 1) L (.inl (x >>> (z &&& 31)) :: S) M) : V E d y cc nL ret Qc pc L (.inl z :: .inl x :: S) M := by
  intro p e s m args below meth c H locs ls C hP hS hl
  exact lv_ishr C.1 C.2.1 hd (k p e s m args below meth c H locs ls C hP hS hl)
theorem v_idiv {x z : Int32} (hd : decode cc pc = .ok (.idiv, 1)) (hz : ¬ z = 0) (k : V E d y cc nL ret Qc (pc + 1) L (.inl (x / z) :: S) M) : V E d y cc nL ret Qc pc L (.inl z :: .inl x :: S) M := by
  intro p e s m args below meth c H locs ls C hP hS hl
  exact lv_idiv C.1 C.2.1 hd hz (k p e s m args below meth c H locs ls C hP hS hl)
theorem v_irem {x z : Int32} (hd : decode cc pc = .ok (.irem, 1)) (hz : ¬ z = 0) (k : V E d y cc nL ret Qc (pc + 1) L (.inl (x - x / z * z) :: S) M) : V E d y cc nL ret Qc pc L (.inl z :: .inl x :: S) M := by
  intro p e s m args below meth c H locs ls C hP hS hl
  exact lv_irem C.1 C.2.1 hd hz (k p e s m args below meth c H locs ls C hP hS hl)
theorem v_ineg {x : Int32} (hd : decode cc pc = .ok (.ineg, 1)) (k : V E d y cc nL ret Qc (pc + 1) L (.inl (-x) :: S) M) : V E d y cc nL ret Qc pc L (.inl x :: S) M := by
  intro p e s m args below meth c H locs ls C hP hS hl
  exact lv_ineg C.1 C.2.1 hd (k p e s m args below meth c H locs ls C hP hS hl)
theorem v_iushr {x z : Int32} (hd : decode cc pc = .ok (.iushr, 1)) (k : V E d y cc nL ret Qc (pc + 1) L (.inl ((x.toUInt32 >>> (z.toUInt32 &&& Int32.toUInt32 31)).toInt32) :: S) M) : V E d y cc nL ret Qc pc L (.inl z :: .inl x :: S) M := by
  intro p e s m args below meth c H locs ls C hP hS hl
  exact lv_iushr C.1 C.2.1 hd rfl (k p e s m args below meth c H locs ls C hP hS hl)
theorem v_i2b {x : Int32} (hd : decode cc pc = .ok (.i2b, 1)) (k : V E d y cc nL ret Qc (pc + 1) L (.inl x.toInt8.toInt32 :: S) M) : V E d y cc nL ret Qc pc L (.inl x :: S) M := by
  intro p e s m args below meth c H locs ls C hP hS hl
  exact lv_i2b C.1 C.2.1 hd rfl (k p e s m args below meth c H locs ls C hP hS hl)
theorem v_i2s {x : Int32} (hd : decode cc pc = .ok (.i2s, 1)) (k : V E d y cc nL ret Qc (pc + 1) L (.inl x.toInt16.toInt32 :: S) M) : V E d y cc nL ret Qc pc L (.inl x :: S) M := by
  intro p e s m args below meth c H locs ls C hP hS hl
  exact lv_i2s C.1 C.2.1 hd rfl (k p e s m args below meth c H locs ls C hP hS hl)
theorem v_i2c {x : Int32} (hd : decode cc pc = .ok (.i2c, 1)) (k : V E d y cc nL ret Qc (pc + 1) L (.inl (x.toUInt32 % 65536).toInt32 :: S) M) : V E d y cc nL ret Qc pc L (.inl x :: S) M := by
  intro p e s m args below meth c H locs ls C hP hS hl
  exact lv_i2c C.1 C.2.1 hd rfl (k p e s m args below meth c H locs ls C hP hS hl)
theorem v_dup {v : av} (hd : decode cc pc = .ok (.dup, 1)) (k : V E d y cc nL ret Qc (pc + 1) L (v :: v :: S) M) : V E d y cc nL ret Qc pc L (v :: S) M := by
  intro p e s m args below meth c H locs ls C hP hS hl
  exact lv_dup C.1 C.2.1 hd (rv_cat E v) (k p e s m args below meth c H locs ls C hP hS hl)
theorem v_dup2 {v u : av} (hd : decode cc pc = .ok (.dup2, 1)) (k : V E d y cc nL ret Qc (pc + 1) L (v :: u :: v :: u :: S) M) : V E d y cc nL ret Qc pc L (v :: u :: S) M := by
  intro p e s m args below meth c H locs ls C hP hS hl
  exact lv_dup2_11 C.1 C.2.1 hd (rv_cat E v) (rv_cat E u) (k p e s m args below meth c H locs ls C hP hS hl)
theorem v_pop {v : av} (hd : decode cc pc = .ok (.pop, 1)) (k : V E d y cc nL ret Qc (pc + 1) L S M) : V E d y cc nL ret Qc pc L (v :: S) M := by
  intro p e s m args below meth c H locs ls C hP hS hl
  exact lv_pop C.1 C.2.1 hd (rv_cat E v) (k p e s m args below meth c H locs ls C hP hS hl)
theorem v_ild0 {x : Int32} {l : List (Option av)} (hd : decode cc pc = .ok (.iload_n 0, 1)) (k : V E d y cc nL ret Qc (pc + 1) (some (.inl x) :: l) (.inl x :: S) M) : V E d y cc nL ret Qc pc (some (.inl x) :: l) S M := by
  intro p e s m args below meth c H locs ls C hP hS hl
  exact lv_iload_n C.1 C.2.1 hd rfl (lh_at hl (i := 0) (v := .inl x) rfl) (k p e s m args below meth c H locs ls C hP hS hl)
theorem v_ist0 {x : Int32} {o : Option av} {l : List (Option av)} (hd : decode cc pc = .ok (.istore_n 0, 1)) (hn : 0 < nL) (k : V E d y cc nL ret Qc (pc + 1) (some (.inl x) :: l) S M) : V E d y cc nL ret Qc pc (o :: l) (.inl x :: S) M := by
  intro p e s m args below meth c H locs ls C hP hS hl
  exact lv_istore_n C.1 C.2.1 hd rfl hl hn rfl (fun ls' hl' => k p e s m args below meth c H locs ls' C hP hS (lh_set (v := .inl x) (i := 0) (L := o :: l) hl'))
theorem v_ald0 {x : Nat} {l : List (Option av)} (hd : decode cc pc = .ok (.aload_n 0, 1)) (k : V E d y cc nL ret Qc (pc + 1) (some (.inr x) :: l) (.inr x :: S) M) : V E d y cc nL ret Qc pc (some (.inr x) :: l) S M := by
  intro p e s m args below meth c H locs ls C hP hS hl
  exact lv_aload_n C.1 C.2.1 hd rfl (lh_at hl (i := 0) (v := .inr x) rfl) (k p e s m args below meth c H locs ls C hP hS hl)
theorem v_ast0 {x : Nat} {o : Option av} {l : List (Option av)} (hd : decode cc pc = .ok (.astore_n 0, 1)) (hn : 0 < nL) (k : V E d y cc nL ret Qc (pc + 1) (some (.inr x) :: l) S M) : V E d y cc nL ret Qc pc (o :: l) (.inr x :: S) M := by
  intro p e s m args below meth c H locs ls C hP hS hl
  exact lv_astore_n C.1 C.2.1 hd rfl hl hn rfl (fun ls' hl' => k p e s m args below meth c H locs ls' C hP hS (lh_set (v := .inr x) (i := 0) (L := o :: l) hl'))
theorem v_iinc0 {x : Int32} {n : Int} {l : List (Option av)} (hd : decode cc pc = .ok (.iinc 0 n, 3)) (hn : 0 < nL) (k : V E d y cc nL ret Qc (pc + 3) (some (.inl (x + Int32.ofInt n)) :: l) S M) : V E d y cc nL ret Qc pc (some (.inl x) :: l) S M := by
  intro p e s m args below meth c H locs ls C hP hS hl
  obtain ⟨z, hz⟩ := List.getElem?_of_mem ((lz_mem E (some (.inl x) :: l) 0).mpr ⟨0, .inl x, rfl, rfl⟩)
  exact lv_iinc (x := x) C.1 C.2.1 hd hl (k := z) (by rw [hz]; rfl) rfl hn rfl (fun ls' hl' => k p e s m args below meth c H locs ls' C hP hS (lh_set (v := .inl (x + Int32.ofInt n)) (i := 0) (L := some (.inl x) :: l) hl'))
theorem v_ild1 {l0 : Option av} {x : Int32} {l : List (Option av)} (hd : decode cc pc = .ok (.iload_n 1, 1)) (k : V E d y cc nL ret Qc (pc + 1) (l0 :: some (.inl x) :: l) (.inl x :: S) M) : V E d y cc nL ret Qc pc (l0 :: some (.inl x) :: l) S M := by
  intro p e s m args below meth c H locs ls C hP hS hl
  exact lv_iload_n C.1 C.2.1 hd rfl (lh_at hl (i := 1) (v := .inl x) rfl) (k p e s m args below meth c H locs ls C hP hS hl)
theorem v_ist1 {l0 : Option av} {x : Int32} {o : Option av} {l : List (Option av)} (hd : decode cc pc = .ok (.istore_n 1, 1)) (hn : 1 < nL) (k : V E d y cc nL ret Qc (pc + 1) (l0 :: some (.inl x) :: l) S M) : V E d y cc nL ret Qc pc (l0 :: o :: l) (.inl x :: S) M := by
  intro p e s m args below meth c H locs ls C hP hS hl
  exact lv_istore_n C.1 C.2.1 hd rfl hl hn rfl (fun ls' hl' => k p e s m args below meth c H locs ls' C hP hS (lh_set (v := .inl x) (i := 1) (L := l0 :: o :: l) hl'))
theorem v_ald1 {l0 : Option av} {x : Nat} {l : List (Option av)} (hd : decode cc pc = .ok (.aload_n 1, 1)) (k : V E d y cc nL ret Qc (pc + 1) (l0 :: some (.inr x) :: l) (.inr x :: S) M) : V E d y cc nL ret Qc pc (l0 :: some (.inr x) :: l) S M := by
  intro p e s m args below meth c H locs ls C hP hS hl
  exact lv_aload_n C.1 C.2.1 hd rfl (lh_at hl (i := 1) (v := .inr x) rfl) (k p e s m args below meth c H locs ls C hP hS hl)
theorem v_ast1 {l0 : Option av} {x : Nat} {o : Option av} {l : List (Option av)} (hd : decode cc pc = .ok (.astore_n 1, 1)) (hn : 1 < nL) (k : V E d y cc nL ret Qc (pc + 1) (l0 :: some (.inr x) :: l) S M) : V E d y cc nL ret Qc pc (l0 :: o :: l) (.inr x :: S) M := by
  intro p e s m args below meth c H locs ls C hP hS hl
  exact lv_astore_n C.1 C.2.1 hd rfl hl hn rfl (fun ls' hl' => k p e s m args below meth c H locs ls' C hP hS (lh_set (v := .inr x) (i := 1) (L := l0 :: o :: l) hl'))
theorem v_iinc1 {l0 : Option av} {x : Int32} {n : Int} {l : List (Option av)} (hd : decode cc pc = .ok (.iinc 1 n, 3)) (hn : 1 < nL) (k : V E d y cc nL ret Qc (pc + 3) (l0 :: some (.inl (x + Int32.ofInt n)) :: l) S M) : V E d y cc nL ret Qc pc (l0 :: some (.inl x) :: l) S M := by
  intro p e s m args below meth c H locs ls C hP hS hl
  obtain ⟨z, hz⟩ := List.getElem?_of_mem ((lz_mem E (l0 :: some (.inl x) :: l) 0).mpr ⟨1, .inl x, rfl, rfl⟩)
  exact lv_iinc (x := x) C.1 C.2.1 hd hl (k := z) (by rw [hz]; rfl) rfl hn rfl (fun ls' hl' => k p e s m args below meth c H locs ls' C hP hS (lh_set (v := .inl (x + Int32.ofInt n)) (i := 1) (L := l0 :: some (.inl x) :: l) hl'))
theorem v_ild2 {l0 l1 : Option av} {x : Int32} {l : List (Option av)} (hd : decode cc pc = .ok (.iload_n 2, 1)) (k : V E d y cc nL ret Qc (pc + 1) (l0 :: l1 :: some (.inl x) :: l) (.inl x :: S) M) : V E d y cc nL ret Qc pc (l0 :: l1 :: some (.inl x) :: l) S M := by
  intro p e s m args below meth c H locs ls C hP hS hl
  exact lv_iload_n C.1 C.2.1 hd rfl (lh_at hl (i := 2) (v := .inl x) rfl) (k p e s m args below meth c H locs ls C hP hS hl)
theorem v_ist2 {l0 l1 : Option av} {x : Int32} {o : Option av} {l : List (Option av)} (hd : decode cc pc = .ok (.istore_n 2, 1)) (hn : 2 < nL) (k : V E d y cc nL ret Qc (pc + 1) (l0 :: l1 :: some (.inl x) :: l) S M) : V E d y cc nL ret Qc pc (l0 :: l1 :: o :: l) (.inl x :: S) M := by
  intro p e s m args below meth c H locs ls C hP hS hl
  exact lv_istore_n C.1 C.2.1 hd rfl hl hn rfl (fun ls' hl' => k p e s m args below meth c H locs ls' C hP hS (lh_set (v := .inl x) (i := 2) (L := l0 :: l1 :: o :: l) hl'))
theorem v_ald2 {l0 l1 : Option av} {x : Nat} {l : List (Option av)} (hd : decode cc pc = .ok (.aload_n 2, 1)) (k : V E d y cc nL ret Qc (pc + 1) (l0 :: l1 :: some (.inr x) :: l) (.inr x :: S) M) : V E d y cc nL ret Qc pc (l0 :: l1 :: some (.inr x) :: l) S M := by
  intro p e s m args below meth c H locs ls C hP hS hl
  exact lv_aload_n C.1 C.2.1 hd rfl (lh_at hl (i := 2) (v := .inr x) rfl) (k p e s m args below meth c H locs ls C hP hS hl)
theorem v_ast2 {l0 l1 : Option av} {x : Nat} {o : Option av} {l : List (Option av)} (hd : decode cc pc = .ok (.astore_n 2, 1)) (hn : 2 < nL) (k : V E d y cc nL ret Qc (pc + 1) (l0 :: l1 :: some (.inr x) :: l) S M) : V E d y cc nL ret Qc pc (l0 :: l1 :: o :: l) (.inr x :: S) M := by
  intro p e s m args below meth c H locs ls C hP hS hl
  exact lv_astore_n C.1 C.2.1 hd rfl hl hn rfl (fun ls' hl' => k p e s m args below meth c H locs ls' C hP hS (lh_set (v := .inr x) (i := 2) (L := l0 :: l1 :: o :: l) hl'))
theorem v_iinc2 {l0 l1 : Option av} {x : Int32} {n : Int} {l : List (Option av)} (hd : decode cc pc = .ok (.iinc 2 n, 3)) (hn : 2 < nL) (k : V E d y cc nL ret Qc (pc + 3) (l0 :: l1 :: some (.inl (x + Int32.ofInt n)) :: l) S M) : V E d y cc nL ret Qc pc (l0 :: l1 :: some (.inl x) :: l) S M := by
  intro p e s m args below meth c H locs ls C hP hS hl
  obtain ⟨z, hz⟩ := List.getElem?_of_mem ((lz_mem E (l0 :: l1 :: some (.inl x) :: l) 0).mpr ⟨2, .inl x, rfl, rfl⟩)
  exact lv_iinc (x := x) C.1 C.2.1 hd hl (k := z) (by rw [hz]; rfl) rfl hn rfl (fun ls' hl' => k p e s m args below meth c H locs ls' C hP hS (lh_set (v := .inl (x + Int32.ofInt n)) (i := 2) (L := l0 :: l1 :: some (.inl x) :: l) hl'))
theorem v_ild3 {l0 l1 l2 : Option av} {x : Int32} {l : List (Option av)} (hd : decode cc pc = .ok (.iload_n 3, 1)) (k : V E d y cc nL ret Qc (pc + 1) (l0 :: l1 :: l2 :: some (.inl x) :: l) (.inl x :: S) M) : V E d y cc nL ret Qc pc (l0 :: l1 :: l2 :: some (.inl x) :: l) S M := by
  intro p e s m args below meth c H locs ls C hP hS hl
  exact lv_iload_n C.1 C.2.1 hd rfl (lh_at hl (i := 3) (v := .inl x) rfl) (k p e s m args below meth c H locs ls C hP hS hl)
theorem v_ist3 {l0 l1 l2 : Option av} {x : Int32} {o : Option av} {l : List (Option av)} (hd : decode cc pc = .ok (.istore_n 3, 1)) (hn : 3 < nL) (k : V E d y cc nL ret Qc (pc + 1) (l0 :: l1 :: l2 :: some (.inl x) :: l) S M) : V E d y cc nL ret Qc pc (l0 :: l1 :: l2 :: o :: l) (.inl x :: S) M := by
  intro p e s m args below meth c H locs ls C hP hS hl
  exact lv_istore_n C.1 C.2.1 hd rfl hl hn rfl (fun ls' hl' => k p e s m args below meth c H locs ls' C hP hS (lh_set (v := .inl x) (i := 3) (L := l0 :: l1 :: l2 :: o :: l) hl'))
theorem v_ald3 {l0 l1 l2 : Option av} {x : Nat} {l : List (Option av)} (hd : decode cc pc = .ok (.aload_n 3, 1)) (k : V E d y cc nL ret Qc (pc + 1) (l0 :: l1 :: l2 :: some (.inr x) :: l) (.inr x :: S) M) : V E d y cc nL ret Qc pc (l0 :: l1 :: l2 :: some (.inr x) :: l) S M := by
  intro p e s m args below meth c H locs ls C hP hS hl
  exact lv_aload_n C.1 C.2.1 hd rfl (lh_at hl (i := 3) (v := .inr x) rfl) (k p e s m args below meth c H locs ls C hP hS hl)
theorem v_ast3 {l0 l1 l2 : Option av} {x : Nat} {o : Option av} {l : List (Option av)} (hd : decode cc pc = .ok (.astore_n 3, 1)) (hn : 3 < nL) (k : V E d y cc nL ret Qc (pc + 1) (l0 :: l1 :: l2 :: some (.inr x) :: l) S M) : V E d y cc nL ret Qc pc (l0 :: l1 :: l2 :: o :: l) (.inr x :: S) M := by
  intro p e s m args below meth c H locs ls C hP hS hl
  exact lv_astore_n C.1 C.2.1 hd rfl hl hn rfl (fun ls' hl' => k p e s m args below meth c H locs ls' C hP hS (lh_set (v := .inr x) (i := 3) (L := l0 :: l1 :: l2 :: o :: l) hl'))
theorem v_iinc3 {l0 l1 l2 : Option av} {x : Int32} {n : Int} {l : List (Option av)} (hd : decode cc pc = .ok (.iinc 3 n, 3)) (hn : 3 < nL) (k : V E d y cc nL ret Qc (pc + 3) (l0 :: l1 :: l2 :: some (.inl (x + Int32.ofInt n)) :: l) S M) : V E d y cc nL ret Qc pc (l0 :: l1 :: l2 :: some (.inl x) :: l) S M := by
  intro p e s m args below meth c H locs ls C hP hS hl
  obtain ⟨z, hz⟩ := List.getElem?_of_mem ((lz_mem E (l0 :: l1 :: l2 :: some (.inl x) :: l) 0).mpr ⟨3, .inl x, rfl, rfl⟩)
  exact lv_iinc (x := x) C.1 C.2.1 hd hl (k := z) (by rw [hz]; rfl) rfl hn rfl (fun ls' hl' => k p e s m args below meth c H locs ls' C hP hS (lh_set (v := .inl (x + Int32.ofInt n)) (i := 3) (L := l0 :: l1 :: l2 :: some (.inl x) :: l) hl'))
theorem v_ild4 {l0 l1 l2 l3 : Option av} {x : Int32} {l : List (Option av)} (hd : decode cc pc = .ok (.iload 4, 2)) (k : V E d y cc nL ret Qc (pc + 2) (l0 :: l1 :: l2 :: l3 :: some (.inl x) :: l) (.inl x :: S) M) : V E d y cc nL ret Qc pc (l0 :: l1 :: l2 :: l3 :: some (.inl x) :: l) S M := by
  intro p e s m args below meth c H locs ls C hP hS hl
  exact lv_iload C.1 C.2.1 hd (lh_at hl (i := 4) (v := .inl x) rfl) (k p e s m args below meth c H locs ls C hP hS hl)
theorem v_ist4 {l0 l1 l2 l3 : Option av} {x : Int32} {o : Option av} {l : List (Option av)} (hd : decode cc pc = .ok (.istore 4, 2)) (hn : 4 < nL) (k : V E d y cc nL ret Qc (pc + 2) (l0 :: l1 :: l2 :: l3 :: some (.inl x) :: l) S M) : V E d y cc nL ret Qc pc (l0 :: l1 :: l2 :: l3 :: o :: l) (.inl x :: S) M := by
  intro p e s m args below meth c H locs ls C hP hS hl
  exact lv_istore C.1 C.2.1 hd hl hn rfl (fun ls' hl' => k p e s m args below meth c H locs ls' C hP hS (lh_set (v := .inl x) (i := 4) (L := l0 :: l1 :: l2 :: l3 :: o :: l) hl'))
theorem v_ald4 {l0 l1 l2 l3 : Option av} {x : Nat} {l : List (Option av)} (hd : decode cc pc = .ok (.aload 4, 2)) (k : V E d y cc nL ret Qc (pc + 2) (l0 :: l1 :: l2 :: l3 :: some (.inr x) :: l) (.inr x :: S) M) : V E d y cc nL ret Qc pc (l0 :: l1 :: l2 :: l3 :: some (.inr x) :: l) S M := by
  intro p e s m args below meth c H locs ls C hP hS hl
  exact lv_aload C.1 C.2.1 hd (lh_at hl (i := 4) (v := .inr x) rfl) (k p e s m args below meth c H locs ls C hP hS hl)
theorem v_ast4 {l0 l1 l2 l3 : Option av} {x : Nat} {o : Option av} {l : List (Option av)} (hd : decode cc pc = .ok (.astore 4, 2)) (hn : 4 < nL) (k : V E d y cc nL ret Qc (pc + 2) (l0 :: l1 :: l2 :: l3 :: some (.inr x) :: l) S M) : V E d y cc nL ret Qc pc (l0 :: l1 :: l2 :: l3 :: o :: l) (.inr x :: S) M := by
  intro p e s m args below meth c H locs ls C hP hS hl
  exact lv_astore C.1 C.2.1 hd hl hn rfl (fun ls' hl' => k p e s m args below meth c H locs ls' C hP hS (lh_set (v := .inr x) (i := 4) (L := l0 :: l1 :: l2 :: l3 :: o :: l) hl'))
theorem v_iinc4 {l0 l1 l2 l3 : Option av} {x : Int32} {n : Int} {l : List (Option av)} (hd : decode cc pc = .ok (.iinc 4 n, 3)) (hn : 4 < nL) (k : V E d y cc nL ret Qc (pc + 3) (l0 :: l1 :: l2 :: l3 :: some (.inl (x + Int32.ofInt n)) :: l) S M) : V E d y cc nL ret Qc pc (l0 :: l1 :: l2 :: l3 :: some (.inl x) :: l) S M := by
  intro p e s m args below meth c H locs ls C hP hS hl
  obtain ⟨z, hz⟩ := List.getElem?_of_mem ((lz_mem E (l0 :: l1 :: l2 :: l3 :: some (.inl x) :: l) 0).mpr ⟨4, .inl x, rfl, rfl⟩)
  exact lv_iinc (x := x) C.1 C.2.1 hd hl (k := z) (by rw [hz]; rfl) rfl hn rfl (fun ls' hl' => k p e s m args below meth c H locs ls' C hP hS (lh_set (v := .inl (x + Int32.ofInt n)) (i := 4) (L := l0 :: l1 :: l2 :: l3 :: some (.inl x) :: l) hl'))
theorem v_ild5 {l0 l1 l2 l3 l4 : Option av} {x : Int32} {l : List (Option av)} (hd : decode cc pc = .ok (.iload 5, 2)) (k : V E d y cc nL ret Qc (pc + 2) (l0 :: l1 :: l2 :: l3 :: l4 :: some (.inl x) :: l) (.inl x :: S) M) : V E d y cc nL ret Qc pc (l0 :: l1 :: l2 :: l3 :: l4 :: some (.inl x) :: l) S M := by
  intro p e s m args below meth c H locs ls C hP hS hl
  exact lv_iload C.1 C.2.1 hd (lh_at hl (i := 5) (v := .inl x) rfl) (k p e s m args below meth c H locs ls C hP hS hl)
theorem v_ist5 {l0 l1 l2 l3 l4 : Option av} {x : Int32} {o : Option av} {l : List (Option av)} (hd : decode cc pc = .ok (.istore 5, 2)) (hn : 5 < nL) (k : V E d y cc nL ret Qc (pc + 2) (l0 :: l1 :: l2 :: l3 :: l4 :: some (.inl x) :: l) S M) : V E d y cc nL ret Qc pc (l0 :: l1 :: l2 :: l3 :: l4 :: o :: l) (.inl x :: S) M := by
  intro p e s m args below meth c H locs ls C hP hS hl
  exact lv_istore C.1 C.2.1 hd hl hn rfl (fun ls' hl' => k p e s m args below meth c H locs ls' C hP hS (lh_set (v := .inl x) (i := 5) (L := l0 :: l1 :: l2 :: l3 :: l4 :: o :: l) hl'))
theorem v_ald5 {l0 l1 l2 l3 l4 : Option av} {x : Nat} {l : List (Option av)} (hd : decode cc pc = .ok (.aload 5, 2)) (k : V E d y cc nL ret Qc (pc + 2) (l0 :: l1 :: l2 :: l3 :: l4 :: some (.inr x) :: l) (.inr x :: S) M) : V E d y cc nL ret Qc pc (l0 :: l1 :: l2 :: l3 :: l4 :: some (.inr x) :: l) S M := by
  intro p e s m args below meth c H locs ls C hP hS hl
  exact lv_aload C.1 C.2.1 hd (lh_at hl (i := 5) (v := .inr x) rfl) (k p e s m args below meth c H locs ls C hP hS hl)
theorem v_ast5 {l0 l1 l2 l3 l4 : Option av} {x : Nat} {o : Option av} {l : List (Option av)} (hd : decode cc pc = .ok (.astore 5, 2)) (hn : 5 < nL) (k : V E d y cc nL ret Qc (pc + 2) (l0 :: l1 :: l2 :: l3 :: l4 :: some (.inr x) :: l) S M) : V E d y cc nL ret Qc pc (l0 :: l1 :: l2 :: l3 :: l4 :: o :: l) (.inr x :: S) M := by
  intro p e s m args below meth c H locs ls C hP hS hl
  exact lv_astore C.1 C.2.1 hd hl hn rfl (fun ls' hl' => k p e s m args below meth c H locs ls' C hP hS (lh_set (v := .inr x) (i := 5) (L := l0 :: l1 :: l2 :: l3 :: l4 :: o :: l) hl'))
theorem v_iinc5 {l0 l1 l2 l3 l4 : Option av} {x : Int32} {n : Int} {l : List (Option av)} (hd : decode cc pc = .ok (.iinc 5 n, 3)) (hn : 5 < nL) (k : V E d y cc nL ret Qc (pc + 3) (l0 :: l1 :: l2 :: l3 :: l4 :: some (.inl (x + Int32.ofInt n)) :: l) S M) : V E d y cc nL ret Qc pc (l0 :: l1 :: l2 :: l3 :: l4 :: some (.inl x) :: l) S M := by
  intro p e s m args below meth c H locs ls C hP hS hl
  obtain ⟨z, hz⟩ := List.getElem?_of_mem ((lz_mem E (l0 :: l1 :: l2 :: l3 :: l4 :: some (.inl x) :: l) 0).mpr ⟨5, .inl x, rfl, rfl⟩)
  exact lv_iinc (x := x) C.1 C.2.1 hd hl (k := z) (by rw [hz]; rfl) rfl hn rfl (fun ls' hl' => k p e s m args below meth c H locs ls' C hP hS (lh_set (v := .inl (x + Int32.ofInt n)) (i := 5) (L := l0 :: l1 :: l2 :: l3 :: l4 :: some (.inl x) :: l) hl'))
theorem v_ild6 {l0 l1 l2 l3 l4 l5 : Option av} {x : Int32} {l : List (Option av)} (hd : decode cc pc = .ok (.iload 6, 2)) (k : V E d y cc nL ret Qc (pc + 2) (l0 :: l1 :: l2 :: l3 :: l4 :: l5 :: some (.inl x) :: l) (.inl x :: S) M) : V E d y cc nL ret Qc pc (l0 :: l1 :: l2 :: l3 :: l4 :: l5 :: some (.inl x) :: l) S M := by
  intro p e s m args below meth c H locs ls C hP hS hl
  exact lv_iload C.1 C.2.1 hd (lh_at hl (i := 6) (v := .inl x) rfl) (k p e s m args below meth c H locs ls C hP hS hl)
theorem v_ist6 {l0 l1 l2 l3 l4 l5 : Option av} {x : Int32} {o : Option av} {l : List (Option av)} (hd : decode cc pc = .ok (.istore 6, 2)) (hn : 6 < nL) (k : V E d y cc nL ret Qc (pc + 2) (l0 :: l1 :: l2 :: l3 :: l4 :: l5 :: some (.inl x) :: l) S M) : V E d y cc nL ret Qc pc (l0 :: l1 :: l2 :: l3 :: l4 :: l5 :: o :: l) (.inl x :: S) M := by
  intro p e s m args below meth c H locs ls C hP hS hl
  exact lv_istore C.1 C.2.1 hd hl hn rfl (fun ls' hl' => k p e s m args below meth c H locs ls' C hP hS (lh_set (v := .inl x) (i := 6) (L := l0 :: l1 :: l2 :: l3 :: l4 :: l5 :: o :: l) hl'))
theorem v_ald6 {l0 l1 l2 l3 l4 l5 : Option av} {x : Nat} {l : List (Option av)} (hd : decode cc pc = .ok (.aload 6, 2)) (k : V E d y cc nL ret Qc (pc + 2) (l0 :: l1 :: l2 :: l3 :: l4 :: l5 :: some (.inr x) :: l) (.inr x :: S) M) : V E d y cc nL ret Qc pc (l0 :: l1 :: l2 :: l3 :: l4 :: l5 :: some (.inr x) :: l) S M := by
  intro p e s m args below meth c H locs ls C hP hS hl
  exact lv_aload C.1 C.2.1 hd (lh_at hl (i := 6) (v := .inr x) rfl) (k p e s m args below meth c H locs ls C hP hS hl)
theorem v_ast6 {l0 l1 l2 l3 l4 l5 : Option av} {x : Nat} {o : Option av} {l : List (Option av)} (hd : decode cc pc = .ok (.astore 6, 2)) (hn : 6 < nL) (k : V E d y cc nL ret Qc (pc + 2) (l0 :: l1 :: l2 :: l3 :: l4 :: l5 :: some (.inr x) :: l) S M) : V E d y cc nL ret Qc pc (l0 :: l1 :: l2 :: l3 :: l4 :: l5 :: o :: l) (.inr x :: S) M := by
  intro p e s m args below meth c H locs ls C hP hS hl
  exact lv_astore C.1 C.2.1 hd hl hn rfl (fun ls' hl' => k p e s m args below meth c H locs ls' C hP hS (lh_set (v := .inr x) (i := 6) (L := l0 :: l1 :: l2 :: l3 :: l4 :: l5 :: o :: l) hl'))
theorem v_iinc6 {l0 l1 l2 l3 l4 l5 : Option av} {x : Int32} {n : Int} {l : List (Option av)} (hd : decode cc pc = .ok (.iinc 6 n, 3)) (hn : 6 < nL) (k : V E d y cc nL ret Qc (pc + 3) (l0 :: l1 :: l2 :: l3 :: l4 :: l5 :: some (.inl (x + Int32.ofInt n)) :: l) S M) : V E d y cc nL ret Qc pc (l0 :: l1 :: l2 :: l3 :: l4 :: l5 :: some (.inl x) :: l) S M := by
  intro p e s m args below meth c H locs ls C hP hS hl
  obtain ⟨z, hz⟩ := List.getElem?_of_mem ((lz_mem E (l0 :: l1 :: l2 :: l3 :: l4 :: l5 :: some (.inl x) :: l) 0).mpr ⟨6, .inl x, rfl, rfl⟩)
  exact lv_iinc (x := x) C.1 C.2.1 hd hl (k := z) (by rw [hz]; rfl) rfl hn rfl (fun ls' hl' => k p e s m args below meth c H locs ls' C hP hS (lh_set (v := .inl (x + Int32.ofInt n)) (i := 6) (L := l0 :: l1 :: l2 :: l3 :: l4 :: l5 :: some (.inl x) :: l) hl'))
theorem v_ild7 {l0 l1 l2 l3 l4 l5 l6 : Option av} {x : Int32} {l : List (Option av)} (hd : decode cc pc = .ok (.iload 7, 2)) (k : V E d y cc nL ret Qc (pc + 2) (l0 :: l1 :: l2 :: l3 :: l4 :: l5 :: l6 :: some (.inl x) :: l) (.inl x :: S) M) : V E d y cc nL ret Qc pc (l0 :: l1 :: l2 :: l3 :: l4 :: l5 :: l6 :: some (.inl x) :: l) S M := by
  intro p e s m args below meth c H locs ls C hP hS hl
  exact lv_iload C.1 C.2.1 hd (lh_at hl (i := 7) (v := .inl x) rfl) (k p e s m args below meth c H locs ls C hP hS hl)
theorem v_ist7 {l0 l1 l2 l3 l4 l5 l6 : Option av} {x : Int32} {o : Option av} {l : List (Option av)} (hd : decode cc pc = .ok (.istore 7, 2)) (hn : 7 < nL) (k : V E d y cc nL ret Qc (pc + 2) (l0 :: l1 :: l2 :: l3 :: l4 :: l5 :: l6 :: some (.inl x) :: l) S M) : V E d y cc nL ret Qc pc (l0 :: l1 :: l2 :: l3 :: l4 :: l5 :: l6 :: o :: l) (.inl x :: S) M := by
  intro p e s m args below meth c H locs ls C hP hS hl
  exact lv_istore C.1 C.2.1 hd hl hn rfl (fun ls' hl' => k p e s m args below meth c H locs ls' C hP hS (lh_set (v := .inl x) (i := 7) (L := l0 :: l1 :: l2 :: l3 :: l4 :: l5 :: l6 :: o :: l) hl'))
theorem v_ald7 {l0 l1 l2 l3 l4 l5 l6 : Option av} {x : Nat} {l : List (Option av)} (hd : decode cc pc = .ok (.aload 7, 2)) (k : V E d y cc nL ret Qc (pc + 2) (l0 :: l1 :: l2 :: l3 :: l4 :: l5 :: l6 :: some (.inr x) :: l) (.inr x :: S) M) : V E d y cc nL ret Qc pc (l0 :: l1 :: l2 :: l3 :: l4 :: l5 :: l6 :: some (.inr x) :: l) S M := by
  intro p e s m args below meth c H locs ls C hP hS hl
  exact lv_aload C.1 C.2.1 hd (lh_at hl (i := 7) (v := .inr x) rfl) (k p e s m args below meth c H locs ls C hP hS hl)
theorem v_ast7 {l0 l1 l2 l3 l4 l5 l6 : Option av} {x : Nat} {o : Option av} {l : List (Option av)} (hd : decode cc pc = .ok (.astore 7, 2)) (hn : 7 < nL) (k : V E d y cc nL ret Qc (pc + 2) (l0 :: l1 :: l2 :: l3 :: l4 :: l5 :: l6 :: some (.inr x) :: l) S M) : V E d y cc nL ret Qc pc (l0 :: l1 :: l2 :: l3 :: l4 :: l5 :: l6 :: o :: l) (.inr x :: S) M := by
  intro p e s m args below meth c H locs ls C hP hS hl
  exact lv_astore C.1 C.2.1 hd hl hn rfl (fun ls' hl' => k p e s m args below meth c H locs ls' C hP hS (lh_set (v := .inr x) (i := 7) (L := l0 :: l1 :: l2 :: l3 :: l4 :: l5 :: l6 :: o :: l) hl'))
theorem v_iinc7 {l0 l1 l2 l3 l4 l5 l6 : Option av} {x : Int32} {n : Int} {l : List (Option av)} (hd : decode cc pc = .ok (.iinc 7 n, 3)) (hn : 7 < nL) (k : V E d y cc nL ret Qc (pc + 3) (l0 :: l1 :: l2 :: l3 :: l4 :: l5 :: l6 :: some (.inl (x + Int32.ofInt n)) :: l) S M) : V E d y cc nL ret Qc pc (l0 :: l1 :: l2 :: l3 :: l4 :: l5 :: l6 :: some (.inl x) :: l) S M := by
  intro p e s m args below meth c H locs ls C hP hS hl
  obtain ⟨z, hz⟩ := List.getElem?_of_mem ((lz_mem E (l0 :: l1 :: l2 :: l3 :: l4 :: l5 :: l6 :: some (.inl x) :: l) 0).mpr ⟨7, .inl x, rfl, rfl⟩)
  exact lv_iinc (x := x) C.1 C.2.1 hd hl (k := z) (by rw [hz]; rfl) rfl hn rfl (fun ls' hl' => k p e s m args below meth c H locs ls' C hP hS (lh_set (v := .inl (x + Int32.ofInt n)) (i := 7) (L := l0 :: l1 :: l2 :: l3 :: l4 :: l5 :: l6 :: some (.inl x) :: l) hl'))
theorem v_ild8 {l0 l1 l2 l3 l4 l5 l6 l7 : Option av} {x : Int32} {l : List (Option av)} (hd : decode cc pc = .ok (.iload 8, 2)) (k : V E d y cc nL ret Qc (pc + 2) (l0 :: l1 :: l2 :: l3 :: l4 :: l5 :: l6 :: l7 :: some (.inl x) :: l) (.inl x :: S) M) : V E d y cc nL ret Qc pc (l0 :: l1 :: l2 :: l3 :: l4 :: l5 :: l6 :: l7 :: some (.inl x) :: l) S M := by
  intro p e s m args below meth c H locs ls C hP hS hl
  exact lv_iload C.1 C.2.1 hd (lh_at hl (i := 8) (v := .inl x) rfl) (k p e s m args below meth c H locs ls C hP hS hl)
theorem v_ist8 {l0 l1 l2 l3 l4 l5 l6 l7 : Option av} {x : Int32} {o : Option av} {l : List (Option av)} (hd : decode cc pc = .ok (.istore 8, 2)) (hn : 8 < nL) (k : V E d y cc nL ret Qc (pc + 2) (l0 :: l1 :: l2 :: l3 :: l4 :: l5 :: l6 :: l7 :: some (.inl x) :: l) S M) : V E d y cc nL ret Qc pc (l0 :: l1 :: l2 :: l3 :: l4 :: l5 :: l6 :: l7 :: o :: l) (.inl x :: S) M := by
  intro p e s m args below meth c H locs ls C hP hS hl
  exact lv_istore C.1 C.2.1 hd hl hn rfl (fun ls' hl' => k p e s m args below meth c H locs ls' C hP hS (lh_set (v := .inl x) (i := 8) (L := l0 :: l1 :: l2 :: l3 :: l4 :: l5 :: l6 :: l7 :: o :: l) hl'))
theorem v_ald8 {l0 l1 l2 l3 l4 l5 l6 l7 : Option av} {x : Nat} {l : List (Option av)} (hd : decode cc pc = .ok (.aload 8, 2)) (k : V E d y cc nL ret Qc (pc + 2) (l0 :: l1 :: l2 :: l3 :: l4 :: l5 :: l6 :: l7 :: some (.inr x) :: l) (.inr x :: S) M) : V E d y cc nL ret Qc pc (l0 :: l1 :: l2 :: l3 :: l4 :: l5 :: l6 :: l7 :: some (.inr x) :: l) S M := by
  intro p e s m args below meth c H locs ls C hP hS hl
  exact lv_aload C.1 C.2.1 hd (lh_at hl (i := 8) (v := .inr x) rfl) (k p e s m args below meth c H locs ls C hP hS hl)
theorem v_ast8 {l0 l1 l2 l3 l4 l5 l6 l7 : Option av} {x : Nat} {o : Option av} {l : List (Option av)} (hd : decode cc pc = .ok (.astore 8, 2)) (hn : 8 < nL) (k : V E d y cc nL ret Qc (pc + 2) (l0 :: l1 :: l2 :: l3 :: l4 :: l5 :: l6 :: l7 :: some (.inr x) :: l) S M) : V E d y cc nL ret Qc pc (l0 :: l1 :: l2 :: l3 :: l4 :: l5 :: l6 :: l7 :: o :: l) (.inr x :: S) M := by
  intro p e s m args below meth c H locs ls C hP hS hl
  exact lv_astore C.1 C.2.1 hd hl hn rfl (fun ls' hl' => k p e s m args below meth c H locs ls' C hP hS (lh_set (v := .inr x) (i := 8) (L := l0 :: l1 :: l2 :: l3 :: l4 :: l5 :: l6 :: l7 :: o :: l) hl'))
theorem v_iinc8 {l0 l1 l2 l3 l4 l5 l6 l7 : Option av} {x : Int32} {n : Int} {l : List (Option av)} (hd : decode cc pc = .ok (.iinc 8 n, 3)) (hn : 8 < nL) (k : V E d y cc nL ret Qc (pc + 3) (l0 :: l1 :: l2 :: l3 :: l4 :: l5 :: l6 :: l7 :: some (.inl (x + Int32.ofInt n)) :: l) S M) : V E d y cc nL ret Qc pc (l0 :: l1 :: l2 :: l3 :: l4 :: l5 :: l6 :: l7 :: some (.inl x) :: l) S M := by
  intro p e s m args below meth c H locs ls C hP hS hl
  obtain ⟨z, hz⟩ := List.getElem?_of_mem ((lz_mem E (l0 :: l1 :: l2 :: l3 :: l4 :: l5 :: l6 :: l7 :: some (.inl x) :: l) 0).mpr ⟨8, .inl x, rfl, rfl⟩)
  exact lv_iinc (x := x) C.1 C.2.1 hd hl (k := z) (by rw [hz]; rfl) rfl hn rfl (fun ls' hl' => k p e s m args below meth c H locs ls' C hP hS (lh_set (v := .inl (x + Int32.ofInt n)) (i := 8) (L := l0 :: l1 :: l2 :: l3 :: l4 :: l5 :: l6 :: l7 :: some (.inl x) :: l) hl'))
theorem v_ild9 {l0 l1 l2 l3 l4 l5 l6 l7 l8 : Option av} {x : Int32} {l : List (Option av)} (hd : decode cc pc = .ok (.iload 9, 2)) (k : V E d y cc nL ret Qc (pc + 2) (l0 :: l1 :: l2 :: l3 :: l4 :: l5 :: l6 :: l7 :: l8 :: some (.inl x) :: l) (.inl x :: S) M) : V E d y cc nL ret Qc pc (l0 :: l1 :: l2 :: l3 :: l4 :: l5 :: l6 :: l7 :: l8 :: some (.inl x) :: l) S M := by
  intro p e s m args below meth c H locs ls C hP hS hl
  exact lv_iload C.1 C.2.1 hd (lh_at hl (i := 9) (v := .inl x) rfl) (k p e s m args below meth c H locs ls C hP hS hl)
theorem v_ist9 {l0 l1 l2 l3 l4 l5 l6 l7 l8 : Option av} {x : Int32} {o : Option av} {l : List (Option av)} (hd : decode cc pc = .ok (.istore 9, 2)) (hn : 9 < nL) (k : V E d y cc nL ret Qc (pc + 2) (l0 :: l1 :: l2 :: l3 :: l4 :: l5 :: l6 :: l7 :: l8 :: some (.inl x) :: l) S M) : V E d y cc nL ret Qc pc (l0 :: l1 :: l2 :: l3 :: l4 :: l5 :: l6 :: l7 :: l8 :: o :: l) (.inl x :: S) M := by
  intro p e s m args below meth c H locs ls C hP hS hl
  exact lv_istore C.1 C.2.1 hd hl hn rfl (fun ls' hl' => k p e s m args below meth c H locs ls' C hP hS (lh_set (v := .inl x) (i := 9) (L := l0 :: l1 :: l2 :: l3 :: l4 :: l5 :: l6 :: l7 :: l8 :: o :: l) hl'))
theorem v_ald9 {l0 l1 l2 l3 l4 l5 l6 l7 l8 : Option av} {x : Nat} {l : List (Option av)} (hd : decode cc pc = .ok (.aload 9, 2)) (k : V E d y cc nL ret Qc (pc + 2) (l0 :: l1 :: l2 :: l3 :: l4 :: l5 :: l6 :: l7 :: l8 :: some (.inr x) :: l) (.inr x :: S) M) : V E d y cc nL ret Qc pc (l0 :: l1 :: l2 :: l3 :: l4 :: l5 :: l6 :: l7 :: l8 :: some (.inr x) :: l) S M := by
  intro p e s m args below meth c H locs ls C hP hS hl
  exact lv_aload C.1 C.2.1 hd (lh_at hl (i := 9) (v := .inr x) rfl) (k p e s m args below meth c H locs ls C hP hS hl)
theorem v_ast9 {l0 l1 l2 l3 l4 l5 l6 l7 l8 : Option av} {x : Nat} {o : Option av} {l : List (Option av)} (hd : decode cc pc = .ok (.astore 9, 2)) (hn : 9 < nL) (k : V E d y cc nL ret Qc (pc + 2) (l0 :: l1 :: l2 :: l3 :: l4 :: l5 :: l6 :: l7 :: l8 :: some (.inr x) :: l) S M) : V E d y cc nL ret Qc pc (l0 :: l1 :: l2 :: l3 :: l4 :: l5 :: l6 :: l7 :: l8 :: o :: l) (.inr x :: S) M := by
  intro p e s m args below meth c H locs ls C hP hS hl
  exact lv_astore C.1 C.2.1 hd hl hn rfl (fun ls' hl' => k p e s m args below meth c H locs ls' C hP hS (lh_set (v := .inr x) (i := 9) (L := l0 :: l1 :: l2 :: l3 :: l4 :: l5 :: l6 :: l7 :: l8 :: o :: l) hl'))
theorem v_iinc9 {l0 l1 l2 l3 l4 l5 l6 l7 l8 : Option av} {x : Int32} {n : Int} {l : List (Option av)} (hd : decode cc pc = .ok (.iinc 9 n, 3)) (hn : 9 < nL) (k : V E d y cc nL ret Qc (pc + 3) (l0 :: l1 :: l2 :: l3 :: l4 :: l5 :: l6 :: l7 :: l8 :: some (.inl (x + Int32.ofInt n)) :: l) S M) : V E d y cc nL ret Qc pc (l0 :: l1 :: l2 :: l3 :: l4 :: l5 :: l6 :: l7 :: l8 :: some (.inl x) :: l) S M := by
  intro p e s m args below meth c H locs ls C hP hS hl
  obtain ⟨z, hz⟩ := List.getElem?_of_mem ((lz_mem E (l0 :: l1 :: l2 :: l3 :: l4 :: l5 :: l6 :: l7 :: l8 :: some (.inl x) :: l) 0).mpr ⟨9, .inl x, rfl, rfl⟩)
  exact lv_iinc (x := x) C.1 C.2.1 hd hl (k := z) (by rw [hz]; rfl) rfl hn rfl (fun ls' hl' => k p e s m args below meth c H locs ls' C hP hS (lh_set (v := .inl (x + Int32.ofInt n)) (i := 9) (L := l0 :: l1 :: l2 :: l3 :: l4 :: l5 :: l6 :: l7 :: l8 :: some (.inl x) :: l) hl'))
theorem v_ild10 {l0 l1 l2 l3 l4 l5 l6 l7 l8 l9 : Option av} {x : Int32} {l : List (Option av)} (hd : decode cc pc = .ok (.iload 10, 2)) (k : V E d y cc nL ret Qc (pc + 2) (l0 :: l1 :: l2 :: l3 :: l4 :: l5 :: l6 :: l7 :: l8 :: l9 :: some (.inl x) :: l) (.inl x :: S) M) : V E d y cc nL ret Qc pc (l0 :: l1 :: l2 :: l3 :: l4 :: l5 :: l6 :: l7 :: l8 :: l9 :: some (.inl x) :: l) S M := by
  intro p e s m args below meth c H locs ls C hP hS hl
  exact lv_iload C.1 C.2.1 hd (lh_at hl (i := 10) (v := .inl x) rfl) (k p e s m args below meth c H locs ls C hP hS hl)
theorem v_ist10 {l0 l1 l2 l3 l4 l5 l6 l7 l8 l9 : Option av} {x : Int32} {o : Option av} {l : List (Option av)} (hd : decode cc pc = .ok (.istore 10, 2)) (hn : 10 < nL) (k : V E d y cc nL ret Qc (pc + 2) (l0 :: l1 :: l2 :: l3 :: l4 :: l5 :: l6 :: l7 :: l8 :: l9 :: some (.inl x) :: l) S M) : V E d y cc nL ret Qc pc (l0 :: l1 :: l2 :: l3 :: l4 :: l5 :: l6 :: l7 :: l8 :: l9 :: o :: l) (.inl x :: S) M := by
  intro p e s m args below meth c H locs ls C hP hS hl
  exact lv_istore C.1 C.2.1 hd hl hn rfl (fun ls' hl' => k p e s m args below meth c H locs ls' C hP hS (lh_set (v := .inl x) (i := 10) (L := l0 :: l1 :: l2 :: l3 :: l4 :: l5 :: l6 :: l7 :: l8 :: l9 :: o :: l) hl'))
theorem v_ald10 {l0 l1 l2 l3 l4 l5 l6 l7 l8 l9 : Option av} {x : Nat} {l : List (Option av)} (hd : decode cc pc = .ok (.aload 10, 2)) (k : V E d y cc nL ret Qc (pc + 2) (l0 :: l1 :: l2 :: l3 :: l4 :: l5 :: l6 :: l7 :: l8 :: l9 :: some (.inr x) :: l) (.inr x :: S) M) : V E d y cc nL ret Qc pc (l0 :: l1 :: l2 :: l3 :: l4 :: l5 :: l6 :: l7 :: l8 :: l9 :: some (.inr x) :: l) S M := by
  intro p e s m args below meth c H locs ls C hP hS hl
  exact lv_aload C.1 C.2.1 hd (lh_at hl (i := 10) (v := .inr x) rfl) (k p e s m args below meth c H locs ls C hP hS hl)
theorem v_ast10 {l0 l1 l2 l3 l4 l5 l6 l7 l8 l9 : Option av} {x : Nat} {o : Option av} {l : List (Option av)} (hd : decode cc pc = .ok (.astore 10, 2)) (hn : 10 < nL) (k : V E d y cc nL ret Qc (pc + 2) (l0 :: l1 :: l2 :: l3 :: l4 :: l5 :: l6 :: l7 :: l8 :: l9 :: some (.inr x) :: l) S M) : V E d y cc nL ret Qc pc (l0 :: l1 :: l2 :: l3 :: l4 :: l5 :: l6 :: l7 :: l8 :: l9 :: o :: l) (.inr x :: S) M := by
  intro p e s m args below meth c H locs ls C hP hS hl
  exact lv_astore C.1 C.2.1 hd hl hn rfl (fun ls' hl' => k p e s m args below meth c H locs ls' C hP hS (lh_set (v := .inr x) (i := 10) (L := l0 :: l1 :: l2 :: l3 :: l4 :: l5 :: l6 :: l7 :: l8 :: l9 :: o :: l) hl'))
theorem v_iinc10 {l0 l1 l2 l3 l4 l5 l6 l7 l8 l9 : Option av} {x : Int32} {n : Int} {l : List (Option av)} (hd : decode cc pc = .ok (.iinc 10 n, 3)) (hn : 10 < nL) (k : V E d y cc nL ret Qc (pc + 3) (l0 :: l1 :: l2 :: l3 :: l4 :: l5 :: l6 :: l7 :: l8 :: l9 :: some (.inl (x + Int32.ofInt n)) :: l) S M) : V E d y cc nL ret Qc pc (l0 :: l1 :: l2 :: l3 :: l4 :: l5 :: l6 :: l7 :: l8 :: l9 :: some (.inl x) :: l) S M := by
  intro p e s m args below meth c H locs ls C hP hS hl
  obtain ⟨z, hz⟩ := List.getElem?_of_mem ((lz_mem E (l0 :: l1 :: l2 :: l3 :: l4 :: l5 :: l6 :: l7 :: l8 :: l9 :: some (.inl x) :: l) 0).mpr ⟨10, .inl x, rfl, rfl⟩)
  exact lv_iinc (x := x) C.1 C.2.1 hd hl (k := z) (by rw [hz]; rfl) rfl hn rfl (fun ls' hl' => k p e s m args below meth c H locs ls' C hP hS (lh_set (v := .inl (x + Int32.ofInt n)) (i := 10) (L := l0 :: l1 :: l2 :: l3 :: l4 :: l5 :: l6 :: l7 :: l8 :: l9 :: some (.inl x) :: l) hl'))
theorem v_ild11 {l0 l1 l2 l3 l4 l5 l6 l7 l8 l9 l10 : Option av} {x : Int32} {l : List (Option av)} (hd : decode cc pc = .ok (.iload 11, 2)) (k : V E d y cc nL ret Qc (pc + 2) (l0 :: l1 :: l2 :: l3 :: l4 :: l5 :: l6 :: l7 :: l8 :: l9 :: l10 :: some (.inl x) :: l) (.inl x :: S) M) : V E d y cc nL ret Qc pc (l0 :: l1 :: l2 :: l3 :: l4 :: l5 :: l6 :: l7 :: l8 :: l9 :: l10 :: some (.inl x) :: l) S M := by
  intro p e s m args below meth c H locs ls C hP hS hl
  exact lv_iload C.1 C.2.1 hd (lh_at hl (i := 11) (v := .inl x) rfl) (k p e s m args below meth c H locs ls C hP hS hl)
theorem v_ist11 {l0 l1 l2 l3 l4 l5 l6 l7 l8 l9 l10 : Option av} {x : Int32} {o : Option av} {l : List (Option av)} (hd : decode cc pc = .ok (.istore 11, 2)) (hn : 11 < nL) (k : V E d y cc nL ret Qc (pc + 2) (l0 :: l1 :: l2 :: l3 :: l4 :: l5 :: l6 :: l7 :: l8 :: l9 :: l10 :: some (.inl x) :: l) S M) : V E d y cc nL ret Qc pc (l0 :: l1 :: l2 :: l3 :: l4 :: l5 :: l6 :: l7 :: l8 :: l9 :: l10 :: o :: l) (.inl x :: S) M := by
  intro p e s m args below meth c H locs ls C hP hS hl
  exact lv_istore C.1 C.2.1 hd hl hn rfl (fun ls' hl' => k p e s m args below meth c H locs ls' C hP hS (lh_set (v := .inl x) (i := 11) (L := l0 :: l1 :: l2 :: l3 :: l4 :: l5 :: l6 :: l7 :: l8 :: l9 :: l10 :: o :: l) hl'))
theorem v_ald11 {l0 l1 l2 l3 l4 l5 l6 l7 l8 l9 l10 : Option av} {x : Nat} {l : List (Option av)} (hd : decode cc pc = .ok (.aload 11, 2)) (k : V E d y cc nL ret Qc (pc + 2) (l0 :: l1 :: l2 :: l3 :: l4 :: l5 :: l6 :: l7 :: l8 :: l9 :: l10 :: some (.inr x) :: l) (.inr x :: S) M) : V E d y cc nL ret Qc pc (l0 :: l1 :: l2 :: l3 :: l4 :: l5 :: l6 :: l7 :: l8 :: l9 :: l10 :: some (.inr x) :: l) S M := by
  intro p e s m args below meth c H locs ls C hP hS hl
  exact lv_aload C.1 C.2.1 hd (lh_at hl (i := 11) (v := .inr x) rfl) (k p e s m args below meth c H locs ls C hP hS hl)
theorem v_ast11 {l0 l1 l2 l3 l4 l5 l6 l7 l8 l9 l10 : Option av} {x : Nat} {o : Option av} {l : List (Option av)} (hd : decode cc pc = .ok (.astore 11, 2)) (hn : 11 < nL) (k : V E d y cc nL ret Qc (pc + 2) (l0 :: l1 :: l2 :: l3 :: l4 :: l5 :: l6 :: l7 :: l8 :: l9 :: l10 :: some (.inr x) :: l) S M) : V E d y cc nL ret Qc pc (l0 :: l1 :: l2 :: l3 :: l4 :: l5 :: l6 :: l7 :: l8 :: l9 :: l10 :: o :: l) (.inr x :: S) M := by
  intro p e s m args below meth c H locs ls C hP hS hl
  exact lv_astore C.1 C.2.1 hd hl hn rfl (fun ls' hl' => k p e s m args below meth c H locs ls' C hP hS (lh_set (v := .inr x) (i := 11) (L := l0 :: l1 :: l2 :: l3 :: l4 :: l5 :: l6 :: l7 :: l8 :: l9 :: l10 :: o :: l) hl'))
theorem v_iinc11 {l0 l1 l2 l3 l4 l5 l6 l7 l8 l9 l10 : Option av} {x : Int32} {n : Int} {l : List (Option av)} (hd : decode cc pc = .ok (.iinc 11 n, 3)) (hn : 11 < nL) (k : V E d y cc nL ret Qc (pc + 3) (l0 :: l1 :: l2 :: l3 :: l4 :: l5 :: l6 :: l7 :: l8 :: l9 :: l10 :: some (.inl (x + Int32.ofInt n)) :: l) S M) : V E d y cc nL ret Qc pc (l0 :: l1 :: l2 :: l3 :: l4 :: l5 :: l6 :: l7 :: l8 :: l9 :: l10 :: some (.inl x) :: l) S M := by
  intro p e s m args below meth c H locs ls C hP hS hl
  obtain ⟨z, hz⟩ := List.getElem?_of_mem ((lz_mem E (l0 :: l1 :: l2 :: l3 :: l4 :: l5 :: l6 :: l7 :: l8 :: l9 :: l10 :: some (.inl x) :: l) 0).mpr ⟨11, .inl x, rfl, rfl⟩)
  exact lv_iinc (x := x) C.1 C.2.1 hd hl (k := z) (by rw [hz]; rfl) rfl hn rfl (fun ls' hl' => k p e s m args below meth c H locs ls' C hP hS (lh_set (v := .inl (x + Int32.ofInt n)) (i := 11) (L := l0 :: l1 :: l2 :: l3 :: l4 :: l5 :: l6 :: l7 :: l8 :: l9 :: l10 :: some (.inl x) :: l) hl'))
theorem v_ild12 {l0 l1 l2 l3 l4 l5 l6 l7 l8 l9 l10 l11 : Option av} {x : Int32} {l : List (Option av)} (hd : decode cc pc = .ok (.iload 12, 2)) (k : V E d y cc nL ret Qc (pc + 2) (l0 :: l1 :: l2 :: l3 :: l4 :: l5 :: l6 :: l7 :: l8 :: l9 :: l10 :: l11 :: some (.inl x) :: l) (.inl x :: S) M) : V E d y cc nL ret Qc pc (l0 :: l1 :: l2 :: l3 :: l4 :: l5 :: l6 :: l7 :: l8 :: l9 :: l10 :: l11 :: some (.inl x) :: l) S M := by
  intro p e s m args below meth c H locs ls C hP hS hl
  exact lv_iload C.1 C.2.1 hd (lh_at hl (i := 12) (v := .inl x) rfl) (k p e s m args below meth c H locs ls C hP hS hl)
theorem v_ist12 {l0 l1 l2 l3 l4 l5 l6 l7 l8 l9 l10 l11 : Option av} {x : Int32} {o : Option av} {l : List (Option av)} (hd : decode cc pc = .ok (.istore 12, 2)) (hn : 12 < nL) (k : V E d y cc nL ret Qc (pc + 2) (l0 :: l1 :: l2 :: l3 :: l4 :: l5 :: l6 :: l7 :: l8 :: l9 :: l10 :: l11 :: some (.inl x) :: l) S M) : V E d y cc nL ret Qc pc (l0 :: l1 :: l2 :: l3 :: l4 :: l5 :: l6 :: l7 :: l8 :: l9 :: l10 :: l11 :: o :: l) (.inl x :: S) M := by
  intro p e s m args below meth c H locs ls C hP hS hl
  exact lv_istore C.1 C.2.1 hd hl hn rfl (fun ls' hl' => k p e s m args below meth c H locs ls' C hP hS (lh_set (v := .inl x) (i := 12) (L := l0 :: l1 :: l2 :: l3 :: l4 :: l5 :: l6 :: l7 :: l8 :: l9 :: l10 :: l11 :: o :: l) hl'))
theorem v_ald12 {l0 l1 l2 l3 l4 l5 l6 l7 l8 l9 l10 l11 : Option av} {x : Nat} {l : List (Option av)} (hd : decode cc pc = .ok (.aload 12, 2)) (k : V E d y cc nL ret Qc (pc + 2) (l0 :: l1 :: l2 :: l3 :: l4 :: l5 :: l6 :: l7 :: l8 :: l9 :: l10 :: l11 :: some (.inr x) :: l) (.inr x :: S) M) : V E d y cc nL ret Qc pc (l0 :: l1 :: l2 :: l3 :: l4 :: l5 :: l6 :: l7 :: l8 :: l9 :: l10 :: l11 :: some (.inr x) :: l) S M := by
  intro p e s m args below meth c H locs ls C hP hS hl
  exact lv_aload C.1 C.2.1 hd (lh_at hl (i := 12) (v := .inr x) rfl) (k p e s m args below meth c H locs ls C hP hS hl)
theorem v_ast12 {l0 l1 l2 l3 l4 l5 l6 l7 l8 l9 l10 l11 : Option av} {x : Nat} {o : Option av} {l : List (Option av)} (hd : decode cc pc = .ok (.astore 12, 2)) (hn : 12 < nL) (k : V E d y cc nL ret Qc (pc + 2) (l0 :: l1 :: l2 :: l3 :: l4 :: l5 :: l6 :: l7 :: l8 :: l9 :: l10 :: l11 :: some (.inr x) :: l) S M) : V E d y cc nL ret Qc pc (l0 :: l1 :: l2 :: l3 :: l4 :: l5 :: l6 :: l7 :: l8 :: l9 :: l10 :: l11 :: o :: l) (.inr x :: S) M := by
  intro p e s m args below meth c H locs ls C hP hS hl
  exact lv_astore C.1 C.2.1 hd hl hn rfl (fun ls' hl' => k p e s m args below meth c H locs ls' C hP hS (lh_set (v := .inr x) (i := 12) (L := l0 :: l1 :: l2 :: l3 :: l4 :: l5 :: l6 :: l7 :: l8 :: l9 :: l10 :: l11 :: o :: l) hl'))
theorem v_iinc12 {l0 l1 l2 l3 l4 l5 l6 l7 l8 l9 l10 l11 : Option av} {x : Int32} {n : Int} {l : List (Option av)} (hd : decode cc pc = .ok (.iinc 12 n, 3)) (hn : 12 < nL) (k : V E d y cc nL ret Qc (pc + 3) (l0 :: l1 :: l2 :: l3 :: l4 :: l5 :: l6 :: l7 :: l8 :: l9 :: l10 :: l11 :: some (.inl (x + Int32.ofInt n)) :: l) S M) : V E d y cc nL ret Qc pc (l0 :: l1 :: l2 :: l3 :: l4 :: l5 :: l6 :: l7 :: l8 :: l9 :: l10 :: l11 :: some (.inl x) :: l) S M := by
  intro p e s m args below meth c H locs ls C hP hS hl
  obtain ⟨z, hz⟩ := List.getElem?_of_mem ((lz_mem E (l0 :: l1 :: l2 :: l3 :: l4 :: l5 :: l6 :: l7 :: l8 :: l9 :: l10 :: l11 :: some (.inl x) :: l) 0).mpr ⟨12, .inl x, rfl, rfl⟩)
  exact lv_iinc (x := x) C.1 C.2.1 hd hl (k := z) (by rw [hz]; rfl) rfl hn rfl (fun ls' hl' => k p e s m args below meth c H locs ls' C hP hS (lh_set (v := .inl (x + Int32.ofInt n)) (i := 12) (L := l0 :: l1 :: l2 :: l3 :: l4 :: l5 :: l6 :: l7 :: l8 :: l9 :: l10 :: l11 :: some (.inl x) :: l) hl'))
theorem v_ild13 {l0 l1 l2 l3 l4 l5 l6 l7 l8 l9 l10 l11 l12 : Option av} {x : Int32} {l : List (Option av)} (hd : decode cc pc = .ok (.iload 13, 2)) (k : V E d y cc nL ret Qc (pc + 2) (l0 :: l1 :: l2 :: l3 :: l4 :: l5 :: l6 :: l7 :: l8 :: l9 :: l10 :: l11 :: l12 :: some (.inl x) :: l) (.inl x :: S) M) : V E d y cc nL ret Qc pc (l0 :: l1 :: l2 :: l3 :: l4 :: l5 :: l6 :: l7 :: l8 :: l9 :: l10 :: l11 :: l12 :: some (.inl x) :: l) S M := by
  intro p e s m args below meth c H locs ls C hP hS hl
  exact lv_iload C.1 C.2.1 hd (lh_at hl (i := 13) (v := .inl x) rfl) (k p e s m args below meth c H locs ls C hP hS hl)
theorem v_ist13 {l0 l1 l2 l3 l4 l5 l6 l7 l8 l9 l10 l11 l12 : Option av} {x : Int32} {o : Option av} {l : List (Option av)} (hd : decode cc pc = .ok (.istore 13, 2)) (hn : 13 < nL) (k : V E d y cc nL ret Qc (pc + 2) (l0 :: l1 :: l2 :: l3 :: l4 :: l5 :: l6 :: l7 :: l8 :: l9 :: l10 :: l11 :: l12 :: some (.inl x) :: l) S M) : V E d y cc nL ret Qc pc (l0 :: l1 :: l2 :: l3 :: l4 :: l5 :: l6 :: l7 :: l8 :: l9 :: l10 :: l11 :: l12 :: o :: l) (.inl x :: S) M := by
  intro p e s m args below meth c H locs ls C hP hS hl
  exact lv_istore C.1 C.2.1 hd hl hn rfl (fun ls' hl' => k p e s m args below meth c H locs ls' C hP hS (lh_set (v := .inl x) (i := 13) (L := l0 :: l1 :: l2 :: l3 :: l4 :: l5 :: l6 :: l7 :: l8 :: l9 :: l10 :: l11 :: l12 :: o :: l) hl'))
theorem v_ald13 {l0 l1 l2 l3 l4 l5 l6 l7 l8 l9 l10 l11 l12 : Option av} {x : Nat} {l : List (Option av)} (hd : decode cc pc = .ok (.aload 13, 2)) (k : V E d y cc nL ret Qc (pc + 2) (l0 :: l1 :: l2 :: l3 :: l4 :: l5 :: l6 :: l7 :: l8 :: l9 :: l10 :: l11 :: l12 :: some (.inr x) :: l) (.inr x :: S) M) : V E d y cc nL ret Qc pc (l0 :: l1 :: l2 :: l3 :: l4 :: l5 :: l6 :: l7 :: l8 :: l9 :: l10 :: l11 :: l12 :: some (.inr x) :: l) S M := by
  intro p e s m args below meth c H locs ls C hP hS hl
  exact lv_aload C.1 C.2.1 hd (lh_at hl (i := 13) (v := .inr x) rfl) (k p e s m args below meth c H locs ls C hP hS hl)
theorem v_ast13 {l0 l1 l2 l3 l4 l5 l6 l7 l8 l9 l10 l11 l12 : Option av} {x : Nat} {o : Option av} {l : List (Option av)} (hd : decode cc pc = .ok (.astore 13, 2)) (hn : 13 < nL) (k : V E d y cc nL ret Qc (pc + 2) (l0 :: l1 :: l2 :: l3 :: l4 :: l5 :: l6 :: l7 :: l8 :: l9 :: l10 :: l11 :: l12 :: some (.inr x) :: l) S M) : V E d y cc nL ret Qc pc (l0 :: l1 :: l2 :: l3 :: l4 :: l5 :: l6 :: l7 :: l8 :: l9 :: l10 :: l11 :: l12 :: o :: l) (.inr x :: S) M := by
  intro p e s m args below meth c H locs ls C hP hS hl
  exact lv_astore C.1 C.2.1 hd hl hn rfl (fun ls' hl' => k p e s m args below meth c H locs ls' C hP hS (lh_set (v := .inr x) (i := 13) (L := l0 :: l1 :: l2 :: l3 :: l4 :: l5 :: l6 :: l7 :: l8 :: l9 :: l10 :: l11 :: l12 :: o :: l) hl'))
theorem v_iinc13 {l0 l1 l2 l3 l4 l5 l6 l7 l8 l9 l10 l11 l12 : Option av} {x : Int32} {n : Int} {l : List (Option av)} (hd : decode cc pc = .ok (.iinc 13 n, 3)) (hn : 13 < nL) (k : V E d y cc nL ret Qc (pc + 3) (l0 :: l1 :: l2 :: l3 :: l4 :: l5 :: l6 :: l7 :: l8 :: l9 :: l10 :: l11 :: l12 :: some (.inl (x + Int32.ofInt n)) :: l) S M) : V E d y cc nL ret Qc pc (l0 :: l1 :: l2 :: l3 :: l4 :: l5 :: l6 :: l7 :: l8 :: l9 :: l10 :: l11 :: l12 :: some (.inl x) :: l) S M := by
  intro p e s m args below meth c H locs ls C hP hS hl
  obtain ⟨z, hz⟩ := List.getElem?_of_mem ((lz_mem E (l0 :: l1 :: l2 :: l3 :: l4 :: l5 :: l6 :: l7 :: l8 :: l9 :: l10 :: l11 :: l12 :: some (.inl x) :: l) 0).mpr ⟨13, .inl x, rfl, rfl⟩)
  exact lv_iinc (x := x) C.1 C.2.1 hd hl (k := z) (by rw [hz]; rfl) rfl hn rfl (fun ls' hl' => k p e s m args below meth c H locs ls' C hP hS (lh_set (v := .inl (x + Int32.ofInt n)) (i := 13) (L := l0 :: l1 :: l2 :: l3 :: l4 :: l5 :: l6 :: l7 :: l8 :: l9 :: l10 :: l11 :: l12 :: some (.inl x) :: l) hl'))
theorem v_icmp_eq {x z : Int32} {off : Int} {tgt : Nat} (hd : decode cc pc = .ok (.if_icmp .eq off, 3)) (ht : (pc : Int) + off = (tgt : Int)) (kt : x = z → V E d y cc nL ret Qc tgt L S M) (kf : ¬ (x = z) → V E d y cc nL ret Qc (pc + 3) L S M) : V E d y cc nL ret Qc pc L (.inl z :: .inl x :: S) M := by
  intro p e s m args below meth c H locs ls C hP hS hl
  exact lv_icmp_eq C.1 C.2.1 hd ht (fun q => kt q p e s m args below meth c H locs ls C hP hS hl) (fun q => kf q p e s m args below meth c H locs ls C hP hS hl)
theorem v_if_eq {x : Int32} {off : Int} {tgt : Nat} (hd : decode cc pc = .ok (.ifCond .eq off, 3)) (ht : (pc : Int) + off = (tgt : Int)) (kt : x = 0 → V E d y cc nL ret Qc tgt L S M) (kf : ¬ (x = 0) → V E d y cc nL ret Qc (pc + 3) L S M) : V E d y cc nL ret Qc pc L (.inl x :: S) M := by
  intro p e s m args below meth c H locs ls C hP hS hl
  exact lv_if_eq C.1 C.2.1 hd ht (fun q => kt q p e s m args below meth c H locs ls C hP hS hl) (fun q => kf q p e s m args below meth c H locs ls C hP hS hl)
theorem v_icmp_ne {x z : Int32} {off : Int} {tgt : Nat} (hd : decode cc pc = .ok (.if_icmp .ne off, 3)) (ht : (pc : Int) + off = (tgt : Int)) (kt : (x ≠ z) → V E d y cc nL ret Qc tgt L S M) (kf : x = z → V E d y cc nL ret Qc (pc + 3) L S M) : V E d y cc nL ret Qc pc L (.inl z :: .inl x :: S) M := by
  intro p e s m args below meth c H locs ls C hP hS hl
  exact lv_icmp_ne C.1 C.2.1 hd ht (fun q => kt q p e s m args below meth c H locs ls C hP hS hl) (fun q => kf q p e s m args below meth c H locs ls C hP hS hl)
theorem v_if_ne {x : Int32} {off : Int} {tgt : Nat} (hd : decode cc pc = .ok (.ifCond .ne off, 3)) (ht : (pc : Int) + off = (tgt : Int)) (kt : x ≠ 0 → V E d y cc nL ret Qc tgt L S M) (kf : x = 0 → V E d y cc nL ret Qc (pc + 3) L S M) : V E d y cc nL ret Qc pc L (.inl x :: S) M := by
  intro p e s m args below meth c H locs ls C hP hS hl
  exact lv_if_ne C.1 C.2.1 hd ht (fun q => kt q p e s m args below meth c H locs ls C hP hS hl) (fun q => kf q p e s m args below meth c H locs ls C hP hS hl)
theorem v_icmp_lt {x z : Int32} {off : Int} {tgt : Nat} (hd : decode cc pc = .ok (.if_icmp .lt off, 3)) (ht : (pc : Int) + off = (tgt : Int)) (kt : x < z → V E d y cc nL ret Qc tgt L S M) (kf : ¬ (x < z) → V E d y cc nL ret Qc (pc + 3) L S M) : V E d y cc nL ret Qc pc L (.inl z :: .inl x :: S) M := by
  intro p e s m args below meth c H locs ls C hP hS hl
  exact lv_icmp_lt C.1 C.2.1 hd ht (fun q => kt q p e s m args below meth c H locs ls C hP hS hl) (fun q => kf q p e s m args below meth c H locs ls C hP hS hl)
theorem v_if_lt {x : Int32} {off : Int} {tgt : Nat} (hd : decode cc pc = .ok (.ifCond .lt off, 3)) (ht : (pc : Int) + off = (tgt : Int)) (kt : x < 0 → V E d y cc nL ret Qc tgt L S M) (kf : ¬ (x < 0) → V E d y cc nL ret Qc (pc + 3) L S M) : V E d y cc nL ret Qc pc L (.inl x :: S) M := by
  intro p e s m args below meth c H locs ls C hP hS hl
  exact lv_if_lt C.1 C.2.1 hd ht (fun q => kt q p e s m args below meth c H locs ls C hP hS hl) (fun q => kf q p e s m args below meth c H locs ls C hP hS hl)
theorem v_icmp_ge {x z : Int32} {off : Int} {tgt : Nat} (hd : decode cc pc = .ok (.if_icmp .ge off, 3)) (ht : (pc : Int) + off = (tgt : Int)) (kt : z ≤ x → V E d y cc nL ret Qc tgt L S M) (kf : ¬ (z ≤ x) → V E d y cc nL ret Qc (pc + 3) L S M) : V E d y cc nL ret Qc pc L (.inl z :: .inl x :: S) M := by
  intro p e s m args below meth c H locs ls C hP hS hl
  exact lv_icmp_ge C.1 C.2.1 hd ht (fun q => kt q p e s m args below meth c H locs ls C hP hS hl) (fun q => kf q p e s m args below meth c H locs ls C hP hS hl)
theorem v_if_ge {x : Int32} {off : Int} {tgt : Nat} (hd : decode cc pc = .ok (.ifCond .ge off, 3)) (ht : (pc : Int) + off = (tgt : Int)) (kt : 0 ≤ x → V E d y cc nL ret Qc tgt L S M) (kf : ¬ (0 ≤ x) → V E d y cc nL ret Qc (pc + 3) L S M) : V E d y cc nL ret Qc pc L (.inl x :: S) M := by
  intro p e s m args below meth c H locs ls C hP hS hl
  exact lv_if_ge C.1 C.2.1 hd ht (fun q => kt q p e s m args below meth c H locs ls C hP hS hl) (fun q => kf q p e s m args below meth c H locs ls C hP hS hl)
theorem v_icmp_gt {x z : Int32} {off : Int} {tgt : Nat} (hd : decode cc pc = .ok (.if_icmp .gt off, 3)) (ht : (pc : Int) + off = (tgt : Int)) (kt : z < x → V E d y cc nL ret Qc tgt L S M) (kf : ¬ (z < x) → V E d y cc nL ret Qc (pc + 3) L S M) : V E d y cc nL ret Qc pc L (.inl z :: .inl x :: S) M := by
  intro p e s m args below meth c H locs ls C hP hS hl
  exact lv_icmp_gt C.1 C.2.1 hd ht (fun q => kt q p e s m args below meth c H locs ls C hP hS hl) (fun q => kf q p e s m args below meth c H locs ls C hP hS hl)
theorem v_if_gt {x : Int32} {off : Int} {tgt : Nat} (hd : decode cc pc = .ok (.ifCond .gt off, 3)) (ht : (pc : Int) + off = (tgt : Int)) (kt : 0 < x → V E d y cc nL ret Qc tgt L S M) (kf : ¬ (0 < x) → V E d y cc nL ret Qc (pc + 3) L S M) : V E d y cc nL ret Qc pc L (.inl x :: S) M := by
  intro p e s m args below meth c H locs ls C hP hS hl
  exact lv_if_gt C.1 C.2.1 hd ht (fun q => kt q p e s m args below meth c H locs ls C hP hS hl) (fun q => kf q p e s m args below meth c H locs ls C hP hS hl)
theorem v_icmp_le {x z : Int32} {off : Int} {tgt : Nat} (hd : decode cc pc = .ok (.if_icmp .le off, 3)) (ht : (pc : Int) + off = (tgt : Int)) (kt : x ≤ z → V E d y cc nL ret Qc tgt L S M) (kf : ¬ (x ≤ z) → V E d y cc nL ret Qc (pc + 3) L S M) : V E d y cc nL ret Qc pc L (.inl z :: .inl x :: S) M := by
  intro p e s m args below meth c H locs ls C hP hS hl
  exact lv_icmp_le C.1 C.2.1 hd ht (fun q => kt q p e s m args below meth c H locs ls C hP hS hl) (fun q => kf q p e s m args below meth c H locs ls C hP hS hl)
theorem v_if_le {x : Int32} {off : Int} {tgt : Nat} (hd : decode cc pc = .ok (.ifCond .le off, 3)) (ht : (pc : Int) + off = (tgt : Int)) (kt : x ≤ 0 → V E d y cc nL ret Qc tgt L S M) (kf : ¬ (x ≤ 0) → V E d y cc nL ret Qc (pc + 3) L S M) : V E d y cc nL ret Qc pc L (.inl x :: S) M := by
  intro p e s m args below meth c H locs ls C hP hS hl
  exact lv_if_le C.1 C.2.1 hd ht (fun q => kt q p e s m args below meth c H locs ls C hP hS hl) (fun q => kf q p e s m args below meth c H locs ls C hP hS hl)
theorem v_goto {off : Int} {tgt : Nat} (hd : decode cc pc = .ok (.goto off, 3)) (ht : (pc : Int) + off = (tgt : Int)) (k : V E d y cc nL ret Qc tgt L S M) : V E d y cc nL ret Qc pc L S M := by
  intro p e s m args below meth c H locs ls C hP hS hl
  exact lv_goto C.1 C.2.1 hd ht (k p e s m args below meth c H locs ls C hP hS hl)
theorem v_tsIn {dflt lo hi : Int} {offs : Array Int} {len : Nat} {x : Int32} {off : Int} {tgt : Nat} (hd : decode cc pc = .ok (.tableswitch dflt lo hi offs, len)) (h1 : ¬ x.toInt < lo) (h2 : ¬ hi < x.toInt) (ho : offs[(x.toInt - lo).toNat]? = some off) (ht : (pc : Int) + off = (tgt : Int)) (k : V E d y cc nL ret Qc tgt L S M) : V E d y cc nL ret Qc pc L (.inl x :: S) M := by
  intro p e s m args below meth c H locs ls C hP hS hl
  exact lv_tableIn C.1 C.2.1 hd h1 h2 ho ht (k p e s m args below meth c H locs ls C hP hS hl)
theorem v_tsOut {dflt lo hi : Int} {offs : Array Int} {len : Nat} {x : Int32} {tgt : Nat} (hd : decode cc pc = .ok (.tableswitch dflt lo hi offs, len)) (h : x.toInt < lo ∨ hi < x.toInt) (ht : (pc : Int) + dflt = (tgt : Int)) (k : V E d y cc nL ret Qc tgt L S M) : V E d y cc nL ret Qc pc L (.inl x :: S) M := by
  intro p e s m args below meth c H locs ls C hP hS hl
  exact lv_tableOut C.1 C.2.1 hd h ht (k p e s m args below meth c H locs ls C hP hS hl)
theorem v_lsw {dflt : Int} {ps : Array (Int × Int)} {len : Nat} {x : Int32} {off : Int} {tgt : Nat} (hd : decode cc pc = .ok (.lookupswitch dflt ps, len)) (hp : (ps.toList.zip (ps.toList.drop 1)).all (fun (a, next) => a.1 < next.1) = true) (ho : Op.lookupswitch.offset ps.toList dflt x.toInt = off) (ht : (pc : Int) + off = (tgt : Int)) (k : V E d y cc nL ret Qc tgt L S M) : V E d y cc nL ret Qc pc L (.inl x :: S) M := by
  intro p e s m args below meth c H locs ls C hP hS hl
  exact lv_lookup C.1 C.2.1 hd hp ho ht (k p e s m args below meth c H locs ls C hP hS hl)
-- fields
theorem v_geti {a ci i k0 : Nat} {fs : List (Option Nat)} (hd : decode cc pc = .ok (.getfield i, 3)) (hg : GF y.cls i ci k0) (ha : sh a = .inr (ci, fs)) (hf : fs[k0]? = some none) (k : V E d y cc nL ret Qc (pc + 3) L (.inl (M a k0) :: S) M) : V E d y cc nL ret Qc pc L (.inr a :: S) M := by
  intro p e s m args below meth c H locs ls C hP hS hl
  have hlt : a < NC := sh_lt ha (by intro q; cases q; simp at hf)
  have he : (wl E M)[a]? = some (eA E a, .inr (ci, fs.zipIdx.map (fv E M a))) := by rw [wl_at E M hlt]; unfold ce; rw [ha]; rfl
  obtain ⟨C0, T, N, hin, hlink, hc, hk⟩ := hg
  exact va_get C.1 C.2.1 C.2.2.2.2.2.1 hin C.2.2.2.2.1 C.2.2.2.2.2.2.2.1 hP a he hc k0 hk (C.2.2.2.2.2.1 _ hlink) (fun x h => h) (v := .int (M a k0)) (fz_at E M a hf) hd (k p e s m args below meth c H locs ls C hP hS hl)
theorem v_getr {a ci i k0 r : Nat} {fs : List (Option Nat)} (hd : decode cc pc = .ok (.getfield i, 3)) (hg : GF y.cls i ci k0) (ha : sh a = .inr (ci, fs)) (hf : fs[k0]? = some (some r)) (k : V E d y cc nL ret Qc (pc + 3) L (.inr r :: S) M) : V E d y cc nL ret Qc pc L (.inr a :: S) M := by
  intro p e s m args below meth c H locs ls C hP hS hl
  have hlt : a < NC := sh_lt ha (by intro q; cases q; simp at hf)
  have he : (wl E M)[a]? = some (eA E a, .inr (ci, fs.zipIdx.map (fv E M a))) := by rw [wl_at E M hlt]; unfold ce; rw [ha]; rfl
  obtain ⟨C0, T, N, hin, hlink, hc, hk⟩ := hg
  exact va_get C.1 C.2.1 C.2.2.2.2.2.1 hin C.2.2.2.2.1 C.2.2.2.2.2.2.2.1 hP a he hc k0 hk (C.2.2.2.2.2.1 _ hlink) (fun x h => h) (v := .ref (eA E r)) (fz_at E M a hf) hd (k p e s m args below meth c H locs ls C hP hS hl)
theorem v_puti {a ci i k0 : Nat} {fs : List (Option Nat)} {ty : FieldType} {x : Int32} (hd : decode cc pc = .ok (.putfield i, 3)) (hg : PF y.cls i ci k0 ty) (ha : sh a = .inr (ci, fs)) (hf : fs[k0]? = some none) (hn : narrow ty (.int x) = .int x) (hfit : fits ty (.int x) = true) (k : V E d y cc nL ret Qc (pc + 3) L S (wr M a k0 x)) : V E d y cc nL ret Qc pc L (.inl x :: .inr a :: S) M := by
  intro p e s m args below meth c H locs ls C hP hS hl
  have hlt : a < NC := sh_lt ha (by intro q; cases q; simp at hf)
  have he : (wl E M)[a]? = some (eA E a, .inr (ci, fs.zipIdx.map (fv E M a))) := by rw [wl_at E M hlt]; unfold ce; rw [ha]; rfl
  obtain ⟨C0, T, N, ty0, hin, hty, hnm, hlink, hc, hk, hfin, hy0⟩ := hg
  subst hy0
  refine va_put C.1 C.2.1 C.2.2.2.2.2.1 hin ty0 hty hnm C.2.2.2.2.1 C.2.2.2.2.2.2.2.1 hP (wl_D C.2.2.2.2.2.2.2.2.2 M) hS a he hc k0 hk (C.2.2.2.2.2.1 _ hlink) (fun x h => h) hfin (hty k0 hk) hn hfit (by simpa using (List.getElem?_eq_some_iff.mp hf).1) hd (fun H1 locs1 hP1 hD1 hS1 => ?_)
  have h2 := wl_obj E M (v := x) ha hf
  have hP2 : va_P (eD E) vwCl (wl E (wr M a k0 x)) H1 := by rw [← h2]; exact hP1
  exact k p e s m args below meth c H1 locs1 ls C hP2 hS1 hl
-- arrays
theorem v_iald {a n : Nat} {i : Int32} (hd : decode cc pc = .ok (.iaload, 1)) (ha : sh a = .inl (0, n, none)) (hi : vp_in i n) (k : V E d y cc nL ret Qc (pc + 1) L (.inl (M a i.toNatClampNeg) :: S) M) : V E d y cc nL ret Qc pc L (.inl i :: .inr a :: S) M := by
  intro p e s m args below meth c H locs ls C hP hS hl
  have hlt : a < NC := sh_lt ha (by intro q; cases q)
  have he : (wl E M)[a]? = some (eA E a, .inl (eC E 0, n, .inl (M a))) := by rw [wl_at E M hlt]; unfold ce; rw [ha]; rfl
  exact va_iald C.1 C.2.1 C.2.2.2.2.2.2.2.1 hP a 0 he (tys_at E rfl) hi hd (k p e s m args below meth c H locs ls C hP hS hl)
theorem v_ialdN {a n i : Nat} (hd : decode cc pc = .ok (.iaload, 1)) (ha : sh a = .inl (0, n, none)) (hi : i < n) (hn : n < 2 ^ 31) (k : V E d y cc nL ret Qc (pc + 1) L (.inl (M a i) :: S) M) : V E d y cc nL ret Qc pc L (.inl (nI i) :: .inr a :: S) M :=
  v_iald hd ha (vp_in_nI hi hn) (by rw [nI_clamp (by omega)]; exact k)
theorem v_bald {a n : Nat} {i : Int32} (hd : decode cc pc = .ok (.baload, 1)) (ha : sh a = .inl (1, n, none)) (hi : vp_in i n) (k : V E d y cc nL ret Qc (pc + 1) L (.inl (M a i.toNatClampNeg) :: S) M) : V E d y cc nL ret Qc pc L (.inl i :: .inr a :: S) M := by
  intro p e s m args below meth c H locs ls C hP hS hl
  have hlt : a < NC := sh_lt ha (by intro q; cases q)
  have he : (wl E M)[a]? = some (eA E a, .inl (eC E 1, n, .inl (M a))) := by rw [wl_at E M hlt]; unfold ce; rw [ha]; rfl
  exact va_bald C.1 C.2.1 C.2.2.2.2.2.2.2.1 hP a 1 he (tys_at E rfl) hi hd (k p e s m args below meth c H locs ls C hP hS hl)
theorem v_baldN {a n i : Nat} (hd : decode cc pc = .ok (.baload, 1)) (ha : sh a = .inl (1, n, none)) (hi : i < n) (hn : n < 2 ^ 31) (k : V E d y cc nL ret Qc (pc + 1) L (.inl (M a i) :: S) M) : V E d y cc nL ret Qc pc L (.inl (nI i) :: .inr a :: S) M :=
  v_bald hd ha (vp_in_nI hi hn) (by rw [nI_clamp (by omega)]; exact k)
theorem v_zald {a n : Nat} {i : Int32} (hd : decode cc pc = .ok (.baload, 1)) (ha : sh a = .inl (2, n, none)) (hi : vp_in i n) (k : V E d y cc nL ret Qc (pc + 1) L (.inl (M a i.toNatClampNeg) :: S) M) : V E d y cc nL ret Qc pc L (.inl i :: .inr a :: S) M := by
  intro p e s m args below meth c H locs ls C hP hS hl
  have hlt : a < NC := sh_lt ha (by intro q; cases q)
  have he : (wl E M)[a]? = some (eA E a, .inl (eC E 2, n, .inl (M a))) := by rw [wl_at E M hlt]; unfold ce; rw [ha]; rfl
  exact va_zald C.1 C.2.1 C.2.2.2.2.2.2.2.1 hP a 2 he (tys_at E rfl) hi hd (k p e s m args below meth c H locs ls C hP hS hl)
theorem v_zaldN {a n i : Nat} (hd : decode cc pc = .ok (.baload, 1)) (ha : sh a = .inl (2, n, none)) (hi : i < n) (hn : n < 2 ^ 31) (k : V E d y cc nL ret Qc (pc + 1) L (.inl (M a i) :: S) M) : V E d y cc nL ret Qc pc L (.inl (nI i) :: .inr a :: S) M :=
  v_zald hd ha (vp_in_nI hi hn) (by rw [nI_clamp (by omega)]; exact k)
theorem v_cald {a n : Nat} {i : Int32} (hd : decode cc pc = .ok (.caload, 1)) (ha : sh a = .inl (3, n, none)) (hi : vp_in i n) (k : V E d y cc nL ret Qc (pc + 1) L (.inl (M a i.toNatClampNeg) :: S) M) : V E d y cc nL ret Qc pc L (.inl i :: .inr a :: S) M := by
  intro p e s m args below meth c H locs ls C hP hS hl
  have hlt : a < NC := sh_lt ha (by intro q; cases q)
  have he : (wl E M)[a]? = some (eA E a, .inl (eC E 3, n, .inl (M a))) := by rw [wl_at E M hlt]; unfold ce; rw [ha]; rfl
  exact va_cald C.1 C.2.1 C.2.2.2.2.2.2.2.1 hP a 3 he (tys_at E rfl) hi hd (k p e s m args below meth c H locs ls C hP hS hl)
theorem v_caldN {a n i : Nat} (hd : decode cc pc = .ok (.caload, 1)) (ha : sh a = .inl (3, n, none)) (hi : i < n) (hn : n < 2 ^ 31) (k : V E d y cc nL ret Qc (pc + 1) L (.inl (M a i) :: S) M) : V E d y cc nL ret Qc pc L (.inl (nI i) :: .inr a :: S) M :=
  v_cald hd ha (vp_in_nI hi hn) (by rw [nI_clamp (by omega)]; exact k)
theorem v_iast {a n : Nat} {i x : Int32} (hd : decode cc pc = .ok (.iastore, 1)) (ha : sh a = .inl (0, n, none)) (hi : vp_in i n) (k : V E d y cc nL ret Qc (pc + 1) L S (wr M a i.toNatClampNeg (x))) : V E d y cc nL ret Qc pc L (.inl x :: .inl i :: .inr a :: S) M := by
  intro p e s m args below meth c H locs ls C hP hS hl
  have hlt : a < NC := sh_lt ha (by intro q; cases q)
  have he : (wl E M)[a]? = some (eA E a, .inl (eC E 0, n, .inl (M a))) := by rw [wl_at E M hlt]; unfold ce; rw [ha]; rfl
  refine va_iast C.1 C.2.1 C.2.2.2.2.2.2.2.1 hP (wl_D C.2.2.2.2.2.2.2.2.2 M) hS a 0 he (tys_at E rfl) hi hd (fun H1 locs1 hP1 hD1 hS1 => ?_)
  rw [wl_arr E M ha] at hP1
  exact k p e s m args below meth c H1 locs1 ls C hP1 hS1 hl
theorem v_iastN {a n i : Nat} {x : Int32} (hd : decode cc pc = .ok (.iastore, 1)) (ha : sh a = .inl (0, n, none)) (hi : i < n) (hn : n < 2 ^ 31) (k : V E d y cc nL ret Qc (pc + 1) L S (wr M a i (x))) : V E d y cc nL ret Qc pc L (.inl x :: .inl (nI i) :: .inr a :: S) M :=
  v_iast hd ha (vp_in_nI hi hn) (by rw [nI_clamp (by omega)]; exact k)
theorem v_bast {a n : Nat} {i x : Int32} (hd : decode cc pc = .ok (.bastore, 1)) (ha : sh a = .inl (1, n, none)) (hi : vp_in i n) (k : V E d y cc nL ret Qc (pc + 1) L S (wr M a i.toNatClampNeg (vp_nar .byte x))) : V E d y cc nL ret Qc pc L (.inl x :: .inl i :: .inr a :: S) M := by
  intro p e s m args below meth c H locs ls C hP hS hl
  have hlt : a < NC := sh_lt ha (by intro q; cases q)
  have he : (wl E M)[a]? = some (eA E a, .inl (eC E 1, n, .inl (M a))) := by rw [wl_at E M hlt]; unfold ce; rw [ha]; rfl
  refine va_bast C.1 C.2.1 C.2.2.2.2.2.2.2.1 hP (wl_D C.2.2.2.2.2.2.2.2.2 M) hS a 1 he (tys_at E rfl) hi hd (fun H1 locs1 hP1 hD1 hS1 => ?_)
  rw [wl_arr E M ha] at hP1
  exact k p e s m args below meth c H1 locs1 ls C hP1 hS1 hl
theorem v_bastN {a n i : Nat} {x : Int32} (hd : decode cc pc = .ok (.bastore, 1)) (ha : sh a = .inl (1, n, none)) (hi : i < n) (hn : n < 2 ^ 31) (k : V E d y cc nL ret Qc (pc + 1) L S (wr M a i (vp_nar .byte x))) : V E d y cc nL ret Qc pc L (.inl x :: .inl (nI i) :: .inr a :: S) M :=
  v_bast hd ha (vp_in_nI hi hn) (by rw [nI_clamp (by omega)]; exact k)
theorem v_zast {a n : Nat} {i x : Int32} (hd : decode cc pc = .ok (.bastore, 1)) (ha : sh a = .inl (2, n, none)) (hi : vp_in i n) (k : V E d y cc nL ret Qc (pc + 1) L S (wr M a i.toNatClampNeg (vp_nar .boolean x))) : V E d y cc nL ret Qc pc L (.inl x :: .inl i :: .inr a :: S) M := by
  intro p e s m args below meth c H locs ls C hP hS hl
  have hlt : a < NC := sh_lt ha (by intro q; cases q)
  have he : (wl E M)[a]? = some (eA E a, .inl (eC E 2, n, .inl (M a))) := by rw [wl_at E M hlt]; unfold ce; rw [ha]; rfl
  refine va_zast C.1 C.2.1 C.2.2.2.2.2.2.2.1 hP (wl_D C.2.2.2.2.2.2.2.2.2 M) hS a 2 he (tys_at E rfl) hi hd (fun H1 locs1 hP1 hD1 hS1 => ?_)
  rw [wl_arr E M ha] at hP1
  exact k p e s m args below meth c H1 locs1 ls C hP1 hS1 hl
theorem v_zastN {a n i : Nat} {x : Int32} (hd : decode cc pc = .ok (.bastore, 1)) (ha : sh a = .inl (2, n, none)) (hi : i < n) (hn : n < 2 ^ 31) (k : V E d y cc nL ret Qc (pc + 1) L S (wr M a i (vp_nar .boolean x))) : V E d y cc nL ret Qc pc L (.inl x :: .inl (nI i) :: .inr a :: S) M :=
  v_zast hd ha (vp_in_nI hi hn) (by rw [nI_clamp (by omega)]; exact k)
theorem v_cast {a n : Nat} {i x : Int32} (hd : decode cc pc = .ok (.castore, 1)) (ha : sh a = .inl (3, n, none)) (hi : vp_in i n) (k : V E d y cc nL ret Qc (pc + 1) L S (wr M a i.toNatClampNeg (vp_nar .char x))) : V E d y cc nL ret Qc pc L (.inl x :: .inl i :: .inr a :: S) M := by
  intro p e s m args below meth c H locs ls C hP hS hl
  have hlt : a < NC := sh_lt ha (by intro q; cases q)
  have he : (wl E M)[a]? = some (eA E a, .inl (eC E 3, n, .inl (M a))) := by rw [wl_at E M hlt]; unfold ce; rw [ha]; rfl
  refine va_cast C.1 C.2.1 C.2.2.2.2.2.2.2.1 hP (wl_D C.2.2.2.2.2.2.2.2.2 M) hS a 3 he (tys_at E rfl) hi hd (fun H1 locs1 hP1 hD1 hS1 => ?_)
  rw [wl_arr E M ha] at hP1
  exact k p e s m args below meth c H1 locs1 ls C hP1 hS1 hl
theorem v_castN {a n i : Nat} {x : Int32} (hd : decode cc pc = .ok (.castore, 1)) (ha : sh a = .inl (3, n, none)) (hi : i < n) (hn : n < 2 ^ 31) (k : V E d y cc nL ret Qc (pc + 1) L S (wr M a i (vp_nar .char x))) : V E d y cc nL ret Qc pc L (.inl x :: .inl (nI i) :: .inr a :: S) M :=
  v_cast hd ha (vp_in_nI hi hn) (by rw [nI_clamp (by omega)]; exact k)
theorem v_aald {a t n : Nat} {g : Nat → Nat} {C0 : String} {i : Int32} (hd : decode cc pc = .ok (.aaload, 1)) (ha : sh a = .inl (t, n, some g)) (ht : aty[t]? = some (.object C0)) (hi : vp_in i n) (k : V E d y cc nL ret Qc (pc + 1) L (.inr (g i.toNatClampNeg) :: S) M) : V E d y cc nL ret Qc pc L (.inl i :: .inr a :: S) M := by
  intro p e s m args below meth c H locs ls C hP hS hl
  have hlt : a < NC := sh_lt ha (by intro q; cases q)
  have he : (wl E M)[a]? = some (eA E a, .inl (eC E t, n, .inr (.inr (.inr (.inr (fun j => some (eA E (g j)))))))) := by rw [wl_at E M hlt]; unfold ce; rw [ha]; rfl
  exact va_aldq C.1 C.2.1 C.2.2.2.2.2.2.2.1 hP a t he (tys_at E ht) hi hd (k p e s m args below meth c H locs ls C hP hS hl)
theorem v_aaldN {a t n i : Nat} {g : Nat → Nat} {C0 : String} (hd : decode cc pc = .ok (.aaload, 1)) (ha : sh a = .inl (t, n, some g)) (ht : aty[t]? = some (.object C0)) (hi : i < n) (hn : n < 2 ^ 31) (k : V E d y cc nL ret Qc (pc + 1) L (.inr (g i) :: S) M) : V E d y cc nL ret Qc pc L (.inl (nI i) :: .inr a :: S) M :=
  v_aald hd ha ht (vp_in_nI hi hn) (by rw [nI_clamp (by omega)]; exact k)
end VR
end
section
/-! contracts: a method's start (its arguments, the memory), its end (answer, memory) -/
def wB (E : ev) : mm → State → Prop := fun M t => va_P (eD E) vwCl (wl E M) t.heap
def qI (E : ev) (Q : Int32 → mm → Prop) : qcT := va_Qi Q (wB E) (Az E)
def qV (E : ev) (Q : mm → Prop) : qcT := va_Qv Q (wB E) (Az E)
def pB (E : ev) (M : mm) (U : State) : Prop := va_P (eD E) vwCl (wl E M) U.heap ∧ va_K (eD E) vwCl (tys E) U ∧ SF E U U.heap ∧ Lie E
def Ct (E : ev) (d : Nat) (y : MethodName) (cc : ByteArray) (nL : Nat) (ret : Option FieldType) (as : List av) (M : mm) (Qc : qcT) : Prop :=
  Met (eL E) y (.code y cc nL ret :: gw) (rm d) (va_Pc (as.map (rv E)) (pB E M)) Qc 0 0 (Az E)
theorem lz_args (E : ev) (n : Nat) : ∀ (as : List av) (i : Nat), ∀ q ∈ lz E i (as.map some ++ List.replicate n none), q ∈ lv_args i (as.map (rv E))
  | [], i, q, h => by
    obtain ⟨j, v, hj, -⟩ := (lz_mem E _ i).mp h
    simp at hj
    rw [List.getElem?_replicate] at hj
    split at hj <;> simp at hj
  | a :: as, i, q, h => by
    simp only [List.map_cons, List.cons_append] at h
    unfold lz at h
    simp only [List.map_cons]
    unfold lv_args
    rw [if_neg (by rw [rv_cat]; decide)]
    rcases List.mem_cons.mp h with e | h
    · rw [e]; exact List.mem_cons_self
    · exact List.mem_cons_of_mem _ (lz_args E n as (i + 1) q h)
theorem lg_len (E : ev) : ∀ as : List av, (lg_sl (as.map (rv E))).length = as.length
  | [] => rfl
  | a :: as => by
    have h := lg_len E as
    unfold lg_sl at h ⊢
    simp only [List.map_cons, List.flatMap_cons, List.length_append, List.length_cons]
    rw [h]
    cases a <;> simp [rv, Value.category] <;> omega
theorem ct_of {E : ev} {d : Nat} {y : MethodName} {cc : ByteArray} {nL : Nat} {ret : Option FieldType} {as : List av} {M : mm} {Qc : qcT} (hy : plainName y.cls = true) (hn : as.length ≤ nL)
    (k : V E d y cc nL ret Qc 0 (as.map some ++ List.replicate (nL - as.length) none) [] M) : Ct E d y cc nL ret as M Qc := by
  refine Met.ofW (cc := cc) (maxL := nL) (ret := ret) hy rfl ?_
  intro p e s m args below meth c s₁ B hml hv
  obtain ⟨rfl, hP, hK, hSF, hLie⟩ := hv
  have hts := atoms_spec (ws := .code y cc nL ret :: gw) B.pre
  have hown : s.vm.findClass y.cls = some m.cls := findClass_of_methodNamed B.named
  rw [lg_entry_eq]
  have hl := lv_entry (as.map (rv E)) (n := nL) (by rw [lg_len]; exact hn)
  exact k p e s m _ below meth c s.heap [] _ ⟨B.exec, B.bytes, hml, B.returns, hown, fun w h => hts w (List.mem_cons_of_mem _ h), B.notSynchronized, hK, hSF, hLie⟩ hP va_S.rf ⟨hl.1, hl.2.1, fun q hq => hl.2.2 q (lz_args E _ as 0 q hq)⟩
/-- a weaker end -/
theorem qI_mono {E : ev} {Q Q' : Int32 → mm → Prop} (h : ∀ r M, Q r M → Q' r M) {a : Array Value} {s : State} {o : Outcome} {t : State} (q : qI E Q a s o t) : qI E Q' a s o t := by
  obtain ⟨⟨r, u, h1, h2, h3⟩, h4⟩ := q
  exact ⟨⟨r, u, h1, h r u h2, h3⟩, h4⟩
def CV (own : String) (idx : Nat) (y : MethodName) (cc : ByteArray) (nL : Nat) (ret : Option FieldType) (n : Nat) : Prop := (∀ w ∈ wsV own idx y.cls y [.code y cc nL ret], w ∈ gw) ∧ (y.cls ≠ "java/lang/invoke/MethodHandle" ∧ y.cls ≠ "java/lang/invoke/VarHandle" ∧ (parseMethodDescriptor y.desc).map (fun d => d.parameters.length) = some n) ∧ nL ≤ 13
def CS (own : String) (idx : Nat) (y : MethodName) (cc : ByteArray) (nL : Nat) (ret : Option FieldType) (n : Nat) : Prop := (∀ w ∈ va_wsS own idx y [.code y cc nL ret], w ∈ gw) ∧ (y.cls ≠ "java/lang/invoke/MethodHandle" ∧ y.cls ≠ "java/lang/invoke/VarHandle" ∧ (parseMethodDescriptor y.desc).map (fun d => d.parameters.length) = some n) ∧ nL ≤ 13
/-- a static method of a nest mate -/
def CN (own : String) (idx : Nat) (y : MethodName) (cc : ByteArray) (nL : Nat) (ret : Option FieldType) (n : Nat) (host : String) : Prop := (∀ w ∈ ([.methodLinkNest own idx y host, .static y, .initialized y.cls, .code y cc nL ret] : List Cond), w ∈ gw) ∧ (y.cls ≠ "java/lang/invoke/MethodHandle" ∧ y.cls ≠ "java/lang/invoke/VarHandle" ∧ (parseMethodDescriptor y.desc).map (fun d => d.parameters.length) = some n) ∧ nL ≤ 13
theorem rv_sum (E : ev) : ∀ S : List av, ((S.map (rv E)).map fun v => v.category).sum = S.length
  | [] => rfl
  | a :: S => by
    have h := rv_sum E S
    simp only [List.map_cons, List.sum_cons, List.length_cons, h, rv_cat]
    omega
theorem pB_blind (E : ev) (as : List av) (M : mm) : FrameBlind (va_Pc (as.map (rv E)) (pB E M)) := fun a U g mk q => by
  obtain ⟨q0, q1, q2, q3, q4⟩ := q
  exact ⟨q0, q1, va_K.moved (u := U) (U := U.calling g mk a) (Vm.Alike.refl U.vm) q2, SF.moved (u := U) (U := U.calling g mk a) (Vm.Alike.refl U.vm) q3, q4⟩
theorem pB_at {E : ev} {M : mm} {p : Program} {s : State} {m : MethodId} {args : Array Value} {meth : Method} {c : Code} {y : MethodName} {cc : ByteArray} {nL : Nat} {ret : Option FieldType} {H : Heap} {locs : List Loc} (C : Cx E p s m args meth c y cc nL ret) (hP : va_P (eD E) vwCl (wl E M) H) (hS : va_S (Az E) s.heap H locs) (U : State) (hU : U.heap = H) (hW : s.WarmedH U.vm) : pB E M U :=
  ⟨by rw [hU]; exact hP, va_K.moved hW.alike C.2.2.2.2.2.2.2.1, by rw [hU]; exact SF.moved hW.alike (C.2.2.2.2.2.2.2.2.1.kept hS.2.1), C.2.2.2.2.2.2.2.2.2⟩
section VC
variable {E : ev} {d d' : Nat} {y y' : MethodName} {cc cc' : ByteArray} {nL nL' : Nat} {ret ret' : Option FieldType} {Qc : qcT} {pc : Nat} {L : List (Option av)} {S St : List av} {M : mm} {as : List av}
theorem v_runV {a ci i n N : Nat} {T : u_T} {fs : List (Option Nat)} {Qd : qcT} (hC : Ct E d' y' cc' nL' ret' (.inr a :: as) M Qd) (hd : decode cc pc = .ok (.invokevirtual i, 3)) (hv : CV y.cls i y' cc' nL' ret' n) (hn : as.length = n) (ha : sh a = .inr (ci, fs)) (hc : vwCl[ci]? = some (y'.cls, T, N)) (hdd : d' < d) (hs : S.length ≤ 8) {p : Program} {e : Env} {s : State} {m : MethodId} {args : Array Value} {below : List Frame} {meth : Method} {c : Code} {H : Heap} {locs : List Loc} {ls : Array Slot} (C : Cx E p s m args meth c y cc nL ret) (hP : va_P (eD E) vwCl (wl E M) H) (hS : va_S (Az E) s.heap H locs) (hl : lh E ls nL L) :
    va_Run p (eL E) e (rm d) s m args below meth c H locs 0 0 0 0 (F0 m pc ls ((as.reverse ++ .inr a :: S).map (rv E))) (S.map (rv E)) (Qd ((.inr a :: as).map (rv E)).toArray) (Az E) := by
  obtain ⟨hw, hq, h13⟩ := hv
  have hlt : a < NC := sh_lt ha (by intro q; cases q; simp at hc)
  have he : (wl E M)[a]? = some (eA E a, .inr (ci, fs.zipIdx.map (fv E M a))) := by rw [wl_at E M hlt]; unfold ce; rw [ha]; rfl
  have hG : GoodIn gw (wsV y.cls i y'.cls y' (.code y' cc' nL' ret' :: gw)) := by
    refine gw_good (fun _ h => h) _ (fun w h => ?_)
    unfold wsV at h hw
    rcases List.mem_append.mp h with h | h
    · exact hw w (List.mem_append_left _ h)
    · rcases List.mem_cons.mp h with h | h
      · exact hw w (List.mem_append_right _ (by rw [h]; exact List.mem_singleton_self _))
      · exact h
  have cw : CallW (rm d) s args y.cls y'.cls i y' cc' nL' ret' (.code y' cc' nL' ret' :: gw) (rm d') 0 0 n := cwV n C.2.2.2.2.2.1 hG rfl rfl rfl ⟨rfl, hq⟩ ⟨hdd, by show 8 + (nL' + 11) + 32 * d' ≤ 32 * d; omega⟩
  exact va_runV (As := as.map (rv E)) (rest := S.map (rv E)) ⟨C.1, C.2.1, C.2.2.1, C.2.2.2.2.1, C.2.2.2.2.2.1⟩ hC cw ⟨pB_blind E _ M, va_recv C.2.2.2.2.2.2.2.1 hP hc he, fun U hU hW => ⟨rfl, pB_at C hP hS U hU hW⟩⟩ rfl (by rw [List.length_map]; exact hn) hl.1 (by simp [rv]) (lv_room (by rw [rv_sum]; exact hs)) hd ⟨Nat.le_refl _, Nat.le_refl _⟩
theorem v_runS {i n : Nat} {Qd : qcT} (hC : Ct E d' y' cc' nL' ret' as M Qd) (hd : decode cc pc = .ok (.invokestatic i, 3)) (hv : CS y.cls i y' cc' nL' ret' n) (hn : as.length = n) (hdd : d' < d) (hs : S.length ≤ 8) {p : Program} {e : Env} {s : State} {m : MethodId} {args : Array Value} {below : List Frame} {meth : Method} {c : Code} {H : Heap} {locs : List Loc} {ls : Array Slot} (C : Cx E p s m args meth c y cc nL ret) (hP : va_P (eD E) vwCl (wl E M) H) (hS : va_S (Az E) s.heap H locs) (hl : lh E ls nL L) :
    va_Run p (eL E) e (rm d) s m args below meth c H locs 0 0 0 0 (F0 m pc ls ((as.reverse ++ S).map (rv E))) (S.map (rv E)) (Qd (as.map (rv E)).toArray) (Az E) := by
  obtain ⟨hw, hq, h13⟩ := hv
  have hG : GoodIn gw (va_wsS y.cls i y' (.code y' cc' nL' ret' :: gw)) := by
    refine gw_good (fun _ h => h) _ (fun w h => ?_)
    unfold va_wsS at h hw
    rcases List.mem_append.mp h with h | h
    · exact hw w (List.mem_append_left _ h)
    · rcases List.mem_cons.mp h with h | h
      · exact hw w (List.mem_append_right _ (by rw [h]; exact List.mem_singleton_self _))
      · exact h
  have cw := va_cwS (R := rm d) (s := s) (args := args) (own := y.cls) (index := i) (y := y') (bytes := cc') (maxL := nL') (mc := 0) (ms := 0) (ret := ret') (rm := rm d') n C.2.2.2.2.2.1 hG rfl rfl rfl hq ⟨hdd, by show 8 + (nL' + 11) + 32 * d' ≤ 32 * d; omega⟩
  exact va_runS (As := as.map (rv E)) (rest := S.map (rv E)) ⟨C.1, C.2.1, C.2.2.1, C.2.2.2.2.1, C.2.2.2.2.2.1⟩ hC cw ⟨pB_blind E _ M, fun U hU hW => ⟨rfl, pB_at C hP hS U hU hW⟩⟩ rfl (by rw [List.length_map]; exact hn) hl.1 (by simp) (lv_room (by rw [rv_sum]; exact hs)) hd ⟨Nat.le_refl _, Nat.le_refl _⟩
theorem v_runN {i n : Nat} {host : String} {Qd : qcT} (hC : Ct E d' y' cc' nL' ret' as M Qd) (hd : decode cc pc = .ok (.invokestatic i, 3)) (hv : CN y.cls i y' cc' nL' ret' n host) (hn : as.length = n) (hdd : d' < d) (hs : S.length ≤ 8) {p : Program} {e : Env} {s : State} {m : MethodId} {args : Array Value} {below : List Frame} {meth : Method} {c : Code} {H : Heap} {locs : List Loc} {ls : Array Slot} (C : Cx E p s m args meth c y cc nL ret) (hP : va_P (eD E) vwCl (wl E M) H) (hS : va_S (Az E) s.heap H locs) (hl : lh E ls nL L) :
    va_Run p (eL E) e (rm d) s m args below meth c H locs 0 0 0 0 (F0 m pc ls ((as.reverse ++ S).map (rv E))) (S.map (rv E)) (Qd (as.map (rv E)).toArray) (Az E) := by
  obtain ⟨hw, hq, h13⟩ := hv
  have hm : ∀ w ∈ ([.methodLinkNest y.cls i y' host, .static y', .initialized y'.cls, .code y' cc' nL' ret'] : List Cond), w.before args s = true := fun w h => C.2.2.2.2.2.1 w (hw w h)
  have hG : GoodIn gw (.code y' cc' nL' ret' :: gw) := by
    refine gw_good (fun _ h => h) _ (fun w h => ?_)
    rcases List.mem_cons.mp h with h | h
    · rw [h]; exact hw _ (by simp)
    · exact h
  have hl1 : va_Nw (.methodLinkNest y.cls i y' host) s := by
    have h1 := hm (.methodLinkNest y.cls i y' host) (by simp)
    exact h1
  have cw := va_cnB (R := rm d) (s := s) (args := args) (own := y.cls) (index := i) (y := y') (host := host) (bytes := cc') (maxL := nL') (mc := 0) (ms := 0) (ret := ret') (rm := rm d') n C.2.2.2.2.2.1 hG rfl rfl rfl hl1 (hm _ (by simp)) hq ⟨hdd, by show 8 + (nL' + 11) + 32 * d' ≤ 32 * d; omega⟩
  exact va_runSN (As := as.map (rv E)) (rest := S.map (rv E)) ⟨C.1, C.2.1, C.2.2.1, C.2.2.2.2.1, C.2.2.2.2.2.1⟩ hC ⟨cw, hm _ (by simp), trivial⟩ ⟨pB_blind E _ M, fun U hU hW => ⟨rfl, pB_at C hP hS U hU hW⟩⟩ rfl (by rw [List.length_map]; exact hn) hl.1 (by simp) (lv_room (by rw [rv_sum]; exact hs)) hd ⟨Nat.le_refl _, Nat.le_refl _⟩

theorem v_callVi {a ci i n N : Nat} {T : u_T} {fs : List (Option Nat)} {Q' : Int32 → mm → Prop} (hC : Ct E d' y' cc' nL' ret' (.inr a :: as) M (qI E Q')) (hd : decode cc pc = .ok (.invokevirtual i, 3)) (hv : CV y.cls i y' cc' nL' ret' n) (hn : as.length = n) (ha : sh a = .inr (ci, fs)) (hc : vwCl[ci]? = some (y'.cls, T, N)) (hdd : d' < d) (hs : S.length ≤ 8) (hst : St = as.reverse ++ .inr a :: S) (k : ∀ (r : Int32) (M' : mm), Q' r M' → V E d y cc nL ret Qc (pc + 3) L (.inl r :: S) M') : V E d y cc nL ret Qc pc L St M := by
  intro p e s m args below meth c H locs ls C hP hS hl
  subst hst
  exact va_calli (A0 := Az E) (H0 := s.heap) (v_runV hC hd hv hn ha hc hdd hs C hP hS hl) hS (fun q _ h => h) (fun q h => h) (fun r u t H1 locs1 ht hvm hw hB hz1 hk1 hS1 => k r u hw p e s m args below meth c H1 locs1 ls C (by have hB' : va_P (eD E) vwCl (wl E u) t.heap := hB; rw [ht] at hB'; exact hB') hS1 hl)
theorem v_callVv {a ci i n N : Nat} {T : u_T} {fs : List (Option Nat)} {Q' : mm → Prop} (hC : Ct E d' y' cc' nL' ret' (.inr a :: as) M (qV E Q')) (hd : decode cc pc = .ok (.invokevirtual i, 3)) (hv : CV y.cls i y' cc' nL' ret' n) (hn : as.length = n) (ha : sh a = .inr (ci, fs)) (hc : vwCl[ci]? = some (y'.cls, T, N)) (hdd : d' < d) (hs : S.length ≤ 8) (hst : St = as.reverse ++ .inr a :: S) (k : ∀ (M' : mm), Q' M' → V E d y cc nL ret Qc (pc + 3) L S M') : V E d y cc nL ret Qc pc L St M := by
  intro p e s m args below meth c H locs ls C hP hS hl
  subst hst
  exact va_callv (A0 := Az E) (H0 := s.heap) (v_runV hC hd hv hn ha hc hdd hs C hP hS hl) hS (fun q _ h => h) (fun q h => h) (fun u t H1 locs1 ht hvm hw hB hz1 hk1 hS1 => k u hw p e s m args below meth c H1 locs1 ls C (by have hB' : va_P (eD E) vwCl (wl E u) t.heap := hB; rw [ht] at hB'; exact hB') hS1 hl)
theorem v_callSi {i n : Nat} {Q' : Int32 → mm → Prop} (hC : Ct E d' y' cc' nL' ret' as M (qI E Q')) (hd : decode cc pc = .ok (.invokestatic i, 3)) (hv : CS y.cls i y' cc' nL' ret' n) (hn : as.length = n) (hdd : d' < d) (hs : S.length ≤ 8) (hst : St = as.reverse ++ S) (k : ∀ (r : Int32) (M' : mm), Q' r M' → V E d y cc nL ret Qc (pc + 3) L (.inl r :: S) M') : V E d y cc nL ret Qc pc L St M := by
  intro p e s m args below meth c H locs ls C hP hS hl
  subst hst
  exact va_calli (A0 := Az E) (H0 := s.heap) (v_runS hC hd hv hn hdd hs C hP hS hl) hS (fun q _ h => h) (fun q h => h) (fun r u t H1 locs1 ht hvm hw hB hz1 hk1 hS1 => k r u hw p e s m args below meth c H1 locs1 ls C (by have hB' : va_P (eD E) vwCl (wl E u) t.heap := hB; rw [ht] at hB'; exact hB') hS1 hl)
theorem v_callSv {i n : Nat} {Q' : mm → Prop} (hC : Ct E d' y' cc' nL' ret' as M (qV E Q')) (hd : decode cc pc = .ok (.invokestatic i, 3)) (hv : CS y.cls i y' cc' nL' ret' n) (hn : as.length = n) (hdd : d' < d) (hs : S.length ≤ 8) (hst : St = as.reverse ++ S) (k : ∀ (M' : mm), Q' M' → V E d y cc nL ret Qc (pc + 3) L S M') : V E d y cc nL ret Qc pc L St M := by
  intro p e s m args below meth c H locs ls C hP hS hl
  subst hst
  exact va_callv (A0 := Az E) (H0 := s.heap) (v_runS hC hd hv hn hdd hs C hP hS hl) hS (fun q _ h => h) (fun q h => h) (fun u t H1 locs1 ht hvm hw hB hz1 hk1 hS1 => k u hw p e s m args below meth c H1 locs1 ls C (by have hB' : va_P (eD E) vwCl (wl E u) t.heap := hB; rw [ht] at hB'; exact hB') hS1 hl)
theorem v_callNi {i n : Nat} {host : String} {Q' : Int32 → mm → Prop} (hC : Ct E d' y' cc' nL' ret' as M (qI E Q')) (hd : decode cc pc = .ok (.invokestatic i, 3)) (hv : CN y.cls i y' cc' nL' ret' n host) (hn : as.length = n) (hdd : d' < d) (hs : S.length ≤ 8) (hst : St = as.reverse ++ S) (k : ∀ (r : Int32) (M' : mm), Q' r M' → V E d y cc nL ret Qc (pc + 3) L (.inl r :: S) M') : V E d y cc nL ret Qc pc L St M := by
  intro p e s m args below meth c H locs ls C hP hS hl
  subst hst
  exact va_calli (A0 := Az E) (H0 := s.heap) (v_runN hC hd hv hn hdd hs C hP hS hl) hS (fun q _ h => h) (fun q h => h) (fun r u t H1 locs1 ht hvm hw hB hz1 hk1 hS1 => k r u hw p e s m args below meth c H1 locs1 ls C (by have hB' : va_P (eD E) vwCl (wl E u) t.heap := hB; rw [ht] at hB'; exact hB') hS1 hl)
theorem v_callNv {i n : Nat} {host : String} {Q' : mm → Prop} (hC : Ct E d' y' cc' nL' ret' as M (qV E Q')) (hd : decode cc pc = .ok (.invokestatic i, 3)) (hv : CN y.cls i y' cc' nL' ret' n host) (hn : as.length = n) (hdd : d' < d) (hs : S.length ≤ 8) (hst : St = as.reverse ++ S) (k : ∀ (M' : mm), Q' M' → V E d y cc nL ret Qc (pc + 3) L S M') : V E d y cc nL ret Qc pc L St M := by
  intro p e s m args below meth c H locs ls C hP hS hl
  subst hst
  exact va_callv (A0 := Az E) (H0 := s.heap) (v_runN hC hd hv hn hdd hs C hP hS hl) hS (fun q _ h => h) (fun q h => h) (fun u t H1 locs1 ht hvm hw hB hz1 hk1 hS1 => k u hw p e s m args below meth c H1 locs1 ls C (by have hB' : va_P (eD E) vwCl (wl E u) t.heap := hB; rw [ht] at hB'; exact hB') hS1 hl)
theorem v_iret {Q : Int32 → mm → Prop} {r : Int32} (hd : decode cc pc = .ok (.ireturn, 1)) (hr : ret = some .int) (hq : Q r M) : V E d y cc nL ret (qI E Q) pc L [.inl r] M := by
  intro p e s m args below meth c H locs ls C hP hS hl
  exact W.iret C.1 C.2.1 (by rw [C.2.2.2.1]; exact hr) (fun t ht _ => ⟨⟨r, M, rfl, hq, by show va_P _ _ _ _; rw [ht]; exact hP⟩, hS.F ht⟩) hS.2.2 hd C.2.2.2.2.2.2.1
theorem v_zret {Q : Int32 → mm → Prop} {r : Int32} (hd : decode cc pc = .ok (.ireturn, 1)) (hr : ret = some .boolean) (hb : narrow .boolean (.int r) = .int r) (hq : Q r M) : V E d y cc nL ret (qI E Q) pc L [.inl r] M := by
  intro p e s m args below meth c H locs ls C hP hS hl
  exact W.zret C.1 C.2.1 (by rw [C.2.2.2.1]; exact hr) hb (fun t ht _ => ⟨⟨r, M, rfl, hq, by show va_P _ _ _ _; rw [ht]; exact hP⟩, hS.F ht⟩) hS.2.2 hd C.2.2.2.2.2.2.1
theorem v_vret {Q : mm → Prop} (hd : decode cc pc = .ok (.return_, 1)) (hr : ret = none) (hq : Q M) : V E d y cc nL ret (qV E Q) pc L [] M := by
  intro p e s m args below meth c H locs ls C hP hS hl
  exact W.vret C.1 C.2.1 (by rw [C.2.2.2.1]; exact hr) (fun t ht _ => ⟨⟨M, rfl, hq, by show va_P _ _ _ _; rw [ht]; exact hP⟩, hS.F ht⟩) hS.2.2 hd C.2.2.2.2.2.2.1
-- statics: the two tables
theorem v_getW {i : Nat} (hd : decode cc pc = .ok (.getstatic i, 3)) (hlink : Cond.fieldLink y.cls i "HearsaySeeds" "WEIGHS" "[I" ∈ gw) (k : V E d y cc nL ret Qc (pc + 3) L (.inr 200 :: S) M) : V E d y cc nL ret Qc pc L S M := by
  intro p e s m args below meth c H locs ls C hP hS hl
  exact va_gets C.1 C.2.1 C.2.2.2.2.2.2.2.2.1.1.1 hS C.2.2.2.2.1 (C.2.2.2.2.2.1 _ hlink) (fun x h => h) hd (k p e s m args below meth c H locs ls C hP hS hl)
theorem v_getWN {i : Nat} {host : String} (hd : decode cc pc = .ok (.getstatic i, 3)) (hlink : Cond.fieldLinkNest y.cls i "HearsaySeeds" "WEIGHS" "[I" host ∈ gw) (k : V E d y cc nL ret Qc (pc + 3) L (.inr 200 :: S) M) : V E d y cc nL ret Qc pc L S M := by
  intro p e s m args below meth c H locs ls C hP hS hl
  exact va_getsN C.1 C.2.1 C.2.2.2.2.2.2.2.2.1.1.1 hS C.2.2.2.2.1 (C.2.2.2.2.2.1 _ hlink) (fun x h => h) hd (k p e s m args below meth c H locs ls C hP hS hl)
theorem v_getA {i : Nat} (hd : decode cc pc = .ok (.getstatic i, 3)) (hlink : Cond.fieldLink y.cls i "HearsaySeeds" "ABOVE" "[I" ∈ gw) (k : V E d y cc nL ret Qc (pc + 3) L (.inr 201 :: S) M) : V E d y cc nL ret Qc pc L S M := by
  intro p e s m args below meth c H locs ls C hP hS hl
  exact va_gets C.1 C.2.1 C.2.2.2.2.2.2.2.2.1.2.1 hS C.2.2.2.2.1 (C.2.2.2.2.2.1 _ hlink) (fun x h => h) hd (k p e s m args below meth c H locs ls C hP hS hl)
theorem v_aldW {i : Int32} (hd : decode cc pc = .ok (.iaload, 1)) (hi : vp_in i 6) (k : V E d y cc nL ret Qc (pc + 1) L (.inl (tabW i.toNatClampNeg) :: S) M) : V E d y cc nL ret Qc pc L (.inl i :: .inr 200 :: S) M := by
  intro p e s m args below meth c H locs ls C hP hS hl
  exact va_ti C.1 C.2.1 C.2.2.2.2.2.2.2.2.1.1.2 hS hi (v := .int (tabW i.toNatClampNeg)) rfl hd (k p e s m args below meth c H locs ls C hP hS hl)
theorem v_aldA {i : Int32} (hd : decode cc pc = .ok (.iaload, 1)) (hi : vp_in i 6) (k : V E d y cc nL ret Qc (pc + 1) L (.inl (tabA i.toNatClampNeg) :: S) M) : V E d y cc nL ret Qc pc L (.inl i :: .inr 201 :: S) M := by
  intro p e s m args below meth c H locs ls C hP hS hl
  exact va_ti C.1 C.2.1 C.2.2.2.2.2.2.2.2.1.2.2 hS hi (v := .int (tabA i.toNatClampNeg)) rfl hd (k p e s m args below meth c H locs ls C hP hS hl)
def MX (own : String) (idx : Nat) (y : MethodName) (cc : ByteArray) (n : Nat) : Prop := Cond.methodLink own idx y ∈ gw ∧ Cond.static y ∈ gw ∧ Cond.initialized "java/lang/Math" ∈ gw ∧ Cond.code y cc n (some .int) ∈ gw
theorem v_mmax {i : Nat} {x z : Int32} (hd : decode cc pc = .ok (.invokestatic i, 3)) (hm : MX y.cls i Lib.Math.max.name Lib.Math.max.code 2) (h0 : 0 < d) (hs : S.length ≤ 8) (k : V E d y cc nL ret Qc (pc + 3) L (.inl (if x < z then z else x) :: S) M) : V E d y cc nL ret Qc pc L (.inl z :: .inl x :: S) M := by
  intro p e s m args below meth c H locs ls C hP hS hl
  have hw := C.2.2.2.2.2.1
  exact va_mmax C.1 C.2.1 (by rw [C.2.2.1]; exact hl.1.symm) C.2.2.2.2.1 (hw _ hm.1) (hw _ hm.2.1) (hw _ hm.2.2.1) (hw _ hm.2.2.2) (show 1 ≤ d from h0) (by rw [rv_sum]; show _ ≤ 32 * d; omega) (Nat.le_refl _) (Nat.le_refl _) hd (k p e s m args below meth c H locs ls C hP hS hl)
theorem v_mmin {i : Nat} {x z : Int32} (hd : decode cc pc = .ok (.invokestatic i, 3)) (hm : MX y.cls i Lib.Math.min.name Lib.Math.min.code 2) (h0 : 0 < d) (hs : S.length ≤ 8) (k : V E d y cc nL ret Qc (pc + 3) L (.inl (if z < x then z else x) :: S) M) : V E d y cc nL ret Qc pc L (.inl z :: .inl x :: S) M := by
  intro p e s m args below meth c H locs ls C hP hS hl
  have hw := C.2.2.2.2.2.1
  exact va_mmin C.1 C.2.1 (by rw [C.2.2.1]; exact hl.1.symm) C.2.2.2.2.1 (hw _ hm.1) (hw _ hm.2.1) (hw _ hm.2.2.1) (hw _ hm.2.2.2) (show 1 ≤ d from h0) (by rw [rv_sum]; show _ ≤ 32 * d; omega) (Nat.le_refl _) (Nat.le_refl _) hd (k p e s m args below meth c H locs ls C hP hS hl)
theorem v_mabs {i : Nat} {x : Int32} (hd : decode cc pc = .ok (.invokestatic i, 3)) (hm : MX y.cls i Lib.Math.abs.name Lib.Math.abs.code 1) (h0 : 0 < d) (hs : S.length ≤ 8) (k : V E d y cc nL ret Qc (pc + 3) L (.inl (if 0 ≤ x then x else 0 - x) :: S) M) : V E d y cc nL ret Qc pc L (.inl x :: S) M := by
  intro p e s m args below meth c H locs ls C hP hS hl
  have hw := C.2.2.2.2.2.1
  exact va_mabs C.1 C.2.1 (by rw [C.2.2.1]; exact hl.1.symm) C.2.2.2.2.1 (hw _ hm.1) (hw _ hm.2.1) (hw _ hm.2.2.1) (hw _ hm.2.2.2) (show 1 ≤ d from h0) (by rw [rv_sum]; show _ ≤ 32 * d; omega) (Nat.le_refl _) (Nat.le_refl _) hd (k p e s m args below meth c H locs ls C hP hS hl)
def AX (own : String) (idx : Nat) : Prop := Cond.methodLink own idx arraycopyName ∈ gw ∧ Cond.native arraycopyName ∈ gw ∧ Cond.static arraycopyName ∈ gw ∧ Cond.initialized "java/lang/System" ∈ gw
theorem v_acopy {i a b n0 n1 : Nat} {sp dp n : Nat} (hd : decode cc pc = .ok (.invokestatic i, 3)) (hm : AX y.cls i) (h0 : 1 < d) (hs : S.length ≤ 8) (ha : sh a = .inl (0, n0, none)) (hb : sh b = .inl (0, n1, none)) (h4 : sp + n ≤ n0) (h5 : dp + n ≤ n1) (hn0 : n0 < 2 ^ 31) (hn1 : n1 < 2 ^ 31) (k : V E d y cc nL ret Qc (pc + 3) L S (wa M b (va_cpy (M a) (M b) sp dp n))) : V E d y cc nL ret Qc pc L (.inl (nI n) :: .inl (nI dp) :: .inr b :: .inl (nI sp) :: .inr a :: S) M := by
  intro p e s m args below meth c H locs ls C hP hS hl
  have hw := C.2.2.2.2.2.1
  have hlt : a < NC := sh_lt ha (by intro q; cases q)
  have hltb : b < NC := sh_lt hb (by intro q; cases q)
  have he : (wl E M)[a]? = some (eA E a, .inl (eC E 0, n0, .inl (M a))) := by rw [wl_at E M hlt]; unfold ce; rw [ha]; rfl
  have heb : (wl E M)[b]? = some (eA E b, .inl (eC E 0, n1, .inl (M b))) := by rw [wl_at E M hltb]; unfold ce; rw [hb]; rfl
  have c1 : (nI sp).toNatClampNeg = sp := nI_clamp (by omega)
  have c2 : (nI dp).toNatClampNeg = dp := nI_clamp (by omega)
  have c3 : (nI n).toNatClampNeg = n := nI_clamp (by omega)
  have hloc : (((S.map (rv E)).map fun v => v.category).sum) + (nativeFrameWords "java/lang/System" "arraycopy" 5 + 11) ≤ (rm d).locals := by
    have h40 : nativeFrameWords "java/lang/System" "arraycopy" 5 ≤ 40 := by decide +kernel
    rw [rv_sum]
    show _ ≤ 32 * d
    omega
  refine va_copyi (sp := nI sp) (dp := nI dp) (n := nI n) C.1 C.2.1 (by rw [C.2.2.1]; exact hl.1.symm) C.2.2.2.2.1 (hw _ hm.1) (hw _ hm.2.1) (hw _ hm.2.2.1) (hw _ hm.2.2.2) C.2.2.2.2.2.2.2.1 hP (wl_D C.2.2.2.2.2.2.2.2.2 M) hS a b 0 0 he heb (tys_at E rfl) (tys_at E rfl) rfl (nI_pos (by omega)) (nI_pos (by omega)) (nI_pos (by omega)) (by rw [c1, c3]; exact h4) (by rw [c2, c3]; exact h5) (fun _ _ => rfl) (show 1 ≤ d by omega) hloc hd (fun H1 locs1 hP1 hD1 hS1 => ?_)
  rw [c1, c2, c3, wl_arrA E M hb] at hP1
  exact k p e s m args below meth c H1 locs1 ls C hP1 hS1 hl
-- numbers that are small: nI
theorem v_iaddN {x z : Nat} (hd : decode cc pc = .ok (.iadd, 1)) (k : V E d y cc nL ret Qc (pc + 1) L (.inl (nI (x + z)) :: S) M) : V E d y cc nL ret Qc pc L (.inl (nI z) :: .inl (nI x) :: S) M := v_iadd hd (by rw [nI_add]; exact k)
theorem v_imulN {x z : Nat} (hd : decode cc pc = .ok (.imul, 1)) (k : V E d y cc nL ret Qc (pc + 1) L (.inl (nI (x * z)) :: S) M) : V E d y cc nL ret Qc pc L (.inl (nI z) :: .inl (nI x) :: S) M := v_imul hd (by rw [pk_mul]; exact k)
theorem v_isubN {x z : Nat} (hd : decode cc pc = .ok (.isub, 1)) (h : z ≤ x) (k : V E d y cc nL ret Qc (pc + 1) L (.inl (nI (x - z)) :: S) M) : V E d y cc nL ret Qc pc L (.inl (nI z) :: .inl (nI x) :: S) M := v_isub hd (by rw [pk_sub h]; exact k)
theorem v_iremN {x z : Nat} (hd : decode cc pc = .ok (.irem, 1)) (hx : x < 2 ^ 31) (h0 : 0 < z) (hz : z < 2 ^ 31) (k : V E d y cc nL ret Qc (pc + 1) L (.inl (nI (x % z)) :: S) M) : V E d y cc nL ret Qc pc L (.inl (nI z) :: .inl (nI x) :: S) M := v_irem hd (nI_ne0 h0 hz) (by rw [pk_rem hx h0 hz]; exact k)
theorem v_idivN {x z : Nat} (hd : decode cc pc = .ok (.idiv, 1)) (hx : x < 2 ^ 31) (h0 : 0 < z) (hz : z < 2 ^ 31) (k : V E d y cc nL ret Qc (pc + 1) L (.inl (nI (x / z)) :: S) M) : V E d y cc nL ret Qc pc L (.inl (nI z) :: .inl (nI x) :: S) M := v_idiv hd (nI_ne0 h0 hz) (by rw [pk_div hx h0 hz]; exact k)
theorem v_iconstN {n : Nat} (hd : decode cc pc = .ok (.iconst (n : Int), 1)) (k : V E d y cc nL ret Qc (pc + 1) L (.inl (nI n) :: S) M) : V E d y cc nL ret Qc pc L S M := v_iconst hd rfl k
theorem v_bipushN {n : Nat} (hd : decode cc pc = .ok (.bipush (n : Int), 2)) (h : n < 128) (k : V E d y cc nL ret Qc (pc + 2) L (.inl (nI n) :: S) M) : V E d y cc nL ret Qc pc L S M := v_bipush hd (by
  have : ∀ m, m < 128 → (Int8.ofInt (m : Nat)).toInt32 = nI m := by decide +kernel
  exact this n h) k
theorem v_sipushN {n : Nat} (hd : decode cc pc = .ok (.sipush (n : Int), 3)) (h : (Int16.ofInt n).toInt32 = nI n) (k : V E d y cc nL ret Qc (pc + 3) L (.inl (nI n) :: S) M) : V E d y cc nL ret Qc pc L S M := v_sipush hd h k

theorem v_icmpN_lt {x z : Nat} {off : Int} {tgt : Nat} (hd : decode cc pc = .ok (.if_icmp .lt off, 3)) (ht : (pc : Int) + off = (tgt : Int)) (hx : x < 2 ^ 31) (hz : z < 2 ^ 31) (kt : x < z → V E d y cc nL ret Qc tgt L S M) (kf : z ≤ x → V E d y cc nL ret Qc (pc + 3) L S M) : V E d y cc nL ret Qc pc L (.inl (nI z) :: .inl (nI x) :: S) M := v_icmp_lt hd ht (fun q => kt ((nI_ltI hx hz).mp q)) (fun q => kf (by have h2 : ¬ (x < z) := fun h => q ((nI_ltI hx hz).mpr h); omega))
theorem v_icmpN_ge {x z : Nat} {off : Int} {tgt : Nat} (hd : decode cc pc = .ok (.if_icmp .ge off, 3)) (ht : (pc : Int) + off = (tgt : Int)) (hx : x < 2 ^ 31) (hz : z < 2 ^ 31) (kt : z ≤ x → V E d y cc nL ret Qc tgt L S M) (kf : x < z → V E d y cc nL ret Qc (pc + 3) L S M) : V E d y cc nL ret Qc pc L (.inl (nI z) :: .inl (nI x) :: S) M := v_icmp_ge hd ht (fun q => kt ((nI_leI hz hx).mp q)) (fun q => kf (by have h2 : ¬ (z ≤ x) := fun h => q ((nI_leI hz hx).mpr h); omega))
theorem v_icmpN_gt {x z : Nat} {off : Int} {tgt : Nat} (hd : decode cc pc = .ok (.if_icmp .gt off, 3)) (ht : (pc : Int) + off = (tgt : Int)) (hx : x < 2 ^ 31) (hz : z < 2 ^ 31) (kt : z < x → V E d y cc nL ret Qc tgt L S M) (kf : x ≤ z → V E d y cc nL ret Qc (pc + 3) L S M) : V E d y cc nL ret Qc pc L (.inl (nI z) :: .inl (nI x) :: S) M := v_icmp_gt hd ht (fun q => kt ((nI_ltI hz hx).mp q)) (fun q => kf (by have h2 : ¬ (z < x) := fun h => q ((nI_ltI hz hx).mpr h); omega))
theorem v_icmpN_le {x z : Nat} {off : Int} {tgt : Nat} (hd : decode cc pc = .ok (.if_icmp .le off, 3)) (ht : (pc : Int) + off = (tgt : Int)) (hx : x < 2 ^ 31) (hz : z < 2 ^ 31) (kt : x ≤ z → V E d y cc nL ret Qc tgt L S M) (kf : z < x → V E d y cc nL ret Qc (pc + 3) L S M) : V E d y cc nL ret Qc pc L (.inl (nI z) :: .inl (nI x) :: S) M := v_icmp_le hd ht (fun q => kt ((nI_leI hx hz).mp q)) (fun q => kf (by have h2 : ¬ (x ≤ z) := fun h => q ((nI_leI hx hz).mpr h); omega))
theorem v_icmpN_eq {x z : Nat} {off : Int} {tgt : Nat} (hd : decode cc pc = .ok (.if_icmp .eq off, 3)) (ht : (pc : Int) + off = (tgt : Int)) (hx : x < 2 ^ 31) (hz : z < 2 ^ 31) (kt : x = z → V E d y cc nL ret Qc tgt L S M) (kf : x ≠ z → V E d y cc nL ret Qc (pc + 3) L S M) : V E d y cc nL ret Qc pc L (.inl (nI z) :: .inl (nI x) :: S) M := v_icmp_eq hd ht (fun q => kt ((nI_eq hx hz).mp q)) (fun q => kf (fun h => q ((nI_eq hx hz).mpr h)))
theorem v_icmpN_ne {x z : Nat} {off : Int} {tgt : Nat} (hd : decode cc pc = .ok (.if_icmp .ne off, 3)) (ht : (pc : Int) + off = (tgt : Int)) (hx : x < 2 ^ 31) (hz : z < 2 ^ 31) (kt : x ≠ z → V E d y cc nL ret Qc tgt L S M) (kf : x = z → V E d y cc nL ret Qc (pc + 3) L S M) : V E d y cc nL ret Qc pc L (.inl (nI z) :: .inl (nI x) :: S) M := v_icmp_ne hd ht (fun q => kt (fun h => q ((nI_eq hx hz).mpr h))) (fun q => kf ((nI_eq hx hz).mp q))
theorem v_iincN0 {x n : Nat} {l : List (Option av)} (hd : decode cc pc = .ok (.iinc 0 (n : Int), 3)) (hn : 0 < nL) (k : V E d y cc nL ret Qc (pc + 3) (some (.inl (nI (x + n))) :: l) S M) : V E d y cc nL ret Qc pc (some (.inl (nI x)) :: l) S M := v_iinc0 hd hn (by rw [show Int32.ofInt (n : Int) = nI n from rfl, nI_add]; exact k)
theorem v_iincN1 {l0 : Option av} {x n : Nat} {l : List (Option av)} (hd : decode cc pc = .ok (.iinc 1 (n : Int), 3)) (hn : 1 < nL) (k : V E d y cc nL ret Qc (pc + 3) (l0 :: some (.inl (nI (x + n))) :: l) S M) : V E d y cc nL ret Qc pc (l0 :: some (.inl (nI x)) :: l) S M := v_iinc1 hd hn (by rw [show Int32.ofInt (n : Int) = nI n from rfl, nI_add]; exact k)
theorem v_iincN2 {l0 l1 : Option av} {x n : Nat} {l : List (Option av)} (hd : decode cc pc = .ok (.iinc 2 (n : Int), 3)) (hn : 2 < nL) (k : V E d y cc nL ret Qc (pc + 3) (l0 :: l1 :: some (.inl (nI (x + n))) :: l) S M) : V E d y cc nL ret Qc pc (l0 :: l1 :: some (.inl (nI x)) :: l) S M := v_iinc2 hd hn (by rw [show Int32.ofInt (n : Int) = nI n from rfl, nI_add]; exact k)
theorem v_iincN3 {l0 l1 l2 : Option av} {x n : Nat} {l : List (Option av)} (hd : decode cc pc = .ok (.iinc 3 (n : Int), 3)) (hn : 3 < nL) (k : V E d y cc nL ret Qc (pc + 3) (l0 :: l1 :: l2 :: some (.inl (nI (x + n))) :: l) S M) : V E d y cc nL ret Qc pc (l0 :: l1 :: l2 :: some (.inl (nI x)) :: l) S M := v_iinc3 hd hn (by rw [show Int32.ofInt (n : Int) = nI n from rfl, nI_add]; exact k)
theorem v_iincN4 {l0 l1 l2 l3 : Option av} {x n : Nat} {l : List (Option av)} (hd : decode cc pc = .ok (.iinc 4 (n : Int), 3)) (hn : 4 < nL) (k : V E d y cc nL ret Qc (pc + 3) (l0 :: l1 :: l2 :: l3 :: some (.inl (nI (x + n))) :: l) S M) : V E d y cc nL ret Qc pc (l0 :: l1 :: l2 :: l3 :: some (.inl (nI x)) :: l) S M := v_iinc4 hd hn (by rw [show Int32.ofInt (n : Int) = nI n from rfl, nI_add]; exact k)
theorem v_iincN5 {l0 l1 l2 l3 l4 : Option av} {x n : Nat} {l : List (Option av)} (hd : decode cc pc = .ok (.iinc 5 (n : Int), 3)) (hn : 5 < nL) (k : V E d y cc nL ret Qc (pc + 3) (l0 :: l1 :: l2 :: l3 :: l4 :: some (.inl (nI (x + n))) :: l) S M) : V E d y cc nL ret Qc pc (l0 :: l1 :: l2 :: l3 :: l4 :: some (.inl (nI x)) :: l) S M := v_iinc5 hd hn (by rw [show Int32.ofInt (n : Int) = nI n from rfl, nI_add]; exact k)
theorem v_iincN6 {l0 l1 l2 l3 l4 l5 : Option av} {x n : Nat} {l : List (Option av)} (hd : decode cc pc = .ok (.iinc 6 (n : Int), 3)) (hn : 6 < nL) (k : V E d y cc nL ret Qc (pc + 3) (l0 :: l1 :: l2 :: l3 :: l4 :: l5 :: some (.inl (nI (x + n))) :: l) S M) : V E d y cc nL ret Qc pc (l0 :: l1 :: l2 :: l3 :: l4 :: l5 :: some (.inl (nI x)) :: l) S M := v_iinc6 hd hn (by rw [show Int32.ofInt (n : Int) = nI n from rfl, nI_add]; exact k)
theorem v_iincN7 {l0 l1 l2 l3 l4 l5 l6 : Option av} {x n : Nat} {l : List (Option av)} (hd : decode cc pc = .ok (.iinc 7 (n : Int), 3)) (hn : 7 < nL) (k : V E d y cc nL ret Qc (pc + 3) (l0 :: l1 :: l2 :: l3 :: l4 :: l5 :: l6 :: some (.inl (nI (x + n))) :: l) S M) : V E d y cc nL ret Qc pc (l0 :: l1 :: l2 :: l3 :: l4 :: l5 :: l6 :: some (.inl (nI x)) :: l) S M := v_iinc7 hd hn (by rw [show Int32.ofInt (n : Int) = nI n from rfl, nI_add]; exact k)
theorem v_iincN8 {l0 l1 l2 l3 l4 l5 l6 l7 : Option av} {x n : Nat} {l : List (Option av)} (hd : decode cc pc = .ok (.iinc 8 (n : Int), 3)) (hn : 8 < nL) (k : V E d y cc nL ret Qc (pc + 3) (l0 :: l1 :: l2 :: l3 :: l4 :: l5 :: l6 :: l7 :: some (.inl (nI (x + n))) :: l) S M) : V E d y cc nL ret Qc pc (l0 :: l1 :: l2 :: l3 :: l4 :: l5 :: l6 :: l7 :: some (.inl (nI x)) :: l) S M := v_iinc8 hd hn (by rw [show Int32.ofInt (n : Int) = nI n from rfl, nI_add]; exact k)
theorem v_iincN9 {l0 l1 l2 l3 l4 l5 l6 l7 l8 : Option av} {x n : Nat} {l : List (Option av)} (hd : decode cc pc = .ok (.iinc 9 (n : Int), 3)) (hn : 9 < nL) (k : V E d y cc nL ret Qc (pc + 3) (l0 :: l1 :: l2 :: l3 :: l4 :: l5 :: l6 :: l7 :: l8 :: some (.inl (nI (x + n))) :: l) S M) : V E d y cc nL ret Qc pc (l0 :: l1 :: l2 :: l3 :: l4 :: l5 :: l6 :: l7 :: l8 :: some (.inl (nI x)) :: l) S M := v_iinc9 hd hn (by rw [show Int32.ofInt (n : Int) = nI n from rfl, nI_add]; exact k)
theorem v_iincN10 {l0 l1 l2 l3 l4 l5 l6 l7 l8 l9 : Option av} {x n : Nat} {l : List (Option av)} (hd : decode cc pc = .ok (.iinc 10 (n : Int), 3)) (hn : 10 < nL) (k : V E d y cc nL ret Qc (pc + 3) (l0 :: l1 :: l2 :: l3 :: l4 :: l5 :: l6 :: l7 :: l8 :: l9 :: some (.inl (nI (x + n))) :: l) S M) : V E d y cc nL ret Qc pc (l0 :: l1 :: l2 :: l3 :: l4 :: l5 :: l6 :: l7 :: l8 :: l9 :: some (.inl (nI x)) :: l) S M := v_iinc10 hd hn (by rw [show Int32.ofInt (n : Int) = nI n from rfl, nI_add]; exact k)
theorem v_iincN11 {l0 l1 l2 l3 l4 l5 l6 l7 l8 l9 l10 : Option av} {x n : Nat} {l : List (Option av)} (hd : decode cc pc = .ok (.iinc 11 (n : Int), 3)) (hn : 11 < nL) (k : V E d y cc nL ret Qc (pc + 3) (l0 :: l1 :: l2 :: l3 :: l4 :: l5 :: l6 :: l7 :: l8 :: l9 :: l10 :: some (.inl (nI (x + n))) :: l) S M) : V E d y cc nL ret Qc pc (l0 :: l1 :: l2 :: l3 :: l4 :: l5 :: l6 :: l7 :: l8 :: l9 :: l10 :: some (.inl (nI x)) :: l) S M := v_iinc11 hd hn (by rw [show Int32.ofInt (n : Int) = nI n from rfl, nI_add]; exact k)
theorem v_iincN12 {l0 l1 l2 l3 l4 l5 l6 l7 l8 l9 l10 l11 : Option av} {x n : Nat} {l : List (Option av)} (hd : decode cc pc = .ok (.iinc 12 (n : Int), 3)) (hn : 12 < nL) (k : V E d y cc nL ret Qc (pc + 3) (l0 :: l1 :: l2 :: l3 :: l4 :: l5 :: l6 :: l7 :: l8 :: l9 :: l10 :: l11 :: some (.inl (nI (x + n))) :: l) S M) : V E d y cc nL ret Qc pc (l0 :: l1 :: l2 :: l3 :: l4 :: l5 :: l6 :: l7 :: l8 :: l9 :: l10 :: l11 :: some (.inl (nI x)) :: l) S M := v_iinc12 hd hn (by rw [show Int32.ofInt (n : Int) = nI n from rfl, nI_add]; exact k)
theorem v_iincN13 {l0 l1 l2 l3 l4 l5 l6 l7 l8 l9 l10 l11 l12 : Option av} {x n : Nat} {l : List (Option av)} (hd : decode cc pc = .ok (.iinc 13 (n : Int), 3)) (hn : 13 < nL) (k : V E d y cc nL ret Qc (pc + 3) (l0 :: l1 :: l2 :: l3 :: l4 :: l5 :: l6 :: l7 :: l8 :: l9 :: l10 :: l11 :: l12 :: some (.inl (nI (x + n))) :: l) S M) : V E d y cc nL ret Qc pc (l0 :: l1 :: l2 :: l3 :: l4 :: l5 :: l6 :: l7 :: l8 :: l9 :: l10 :: l11 :: l12 :: some (.inl (nI x)) :: l) S M := v_iinc13 hd hn (by rw [show Int32.ofInt (n : Int) = nI n from rfl, nI_add]; exact k)
end VC
/-- a loop whose states are known, from its end -/
theorem bk_loop (P : Nat → Prop) (N : Nat) (hs : ∀ k, k < N → P (k + 1) → P k) (hN : P N) : ∀ i, i ≤ N → P (N - i)
  | 0, _ => hN
  | i + 1, h => hs (N - (i + 1)) (by omega) (by have := bk_loop P N hs hN i (by omega); rwa [show N - (i + 1) + 1 = N - i by omega])
theorem bk_0 (P : Nat → Prop) (N : Nat) (hs : ∀ k, k < N → P (k + 1) → P k) (hN : P N) : P 0 := by
  have := bk_loop P N hs hN N (Nat.le_refl _)
  rwa [Nat.sub_self] at this
def b2 (b : Bool) : Int32 := if b then 1 else 0
theorem b2_nar (b : Bool) : narrow .boolean (.int (b2 b)) = .int (b2 b) := by cases b <;> decide +kernel
theorem b2_0 {b : Bool} : b2 b = 0 ↔ b = false := by cases b <;> decide
theorem b2_1 {b : Bool} : b2 b ≠ 0 ↔ b = true := by cases b <;> decide
end
