section
-- ===== PART A: goes FIRST, ahead of the names: the tables' words, and 'selects' of the private methods out of them =====
/-- a private method of a class that the tables say can be made, by its rows of tables_1 -/
def lw_okq (q : MethodName × Nat) : Prop := (q.1.cls ≠ "java/lang/invoke/MethodHandle" ∧ q.1.cls ≠ "java/lang/invoke/VarHandle") ∧ Cond.instantiable q.1.cls q.2 ∈ tables_1 ∧ Cond.privateMethod q.1 ∈ tables_1 ∧ Cond.instanceMethod q.1 ∈ tables_1
theorem lw_p0 : lw_okq (⟨"GlassTax$Reader", "takes", "(ILGlassTax$House;)Z"⟩, 3) := ⟨⟨by decide +kernel, by decide +kernel⟩, List.mem_of_getElem? (i := 42) (by decide +kernel), List.mem_of_getElem? (i := 339) (by decide +kernel), List.mem_of_getElem? (i := 340) (by decide +kernel)⟩
theorem lw_p1 : lw_okq (⟨"GlassTax$Reader", "takesPart", "(ILGlassTax$House;)Z"⟩, 3) := ⟨⟨by decide +kernel, by decide +kernel⟩, List.mem_of_getElem? (i := 42) (by decide +kernel), List.mem_of_getElem? (i := 343) (by decide +kernel), List.mem_of_getElem? (i := 344) (by decide +kernel)⟩
theorem lw_p2 : lw_okq (⟨"GlassTax$Reader", "takesFigure", "(ILGlassTax$House;)Z"⟩, 3) := ⟨⟨by decide +kernel, by decide +kernel⟩, List.mem_of_getElem? (i := 42) (by decide +kernel), List.mem_of_getElem? (i := 359) (by decide +kernel), List.mem_of_getElem? (i := 360) (by decide +kernel)⟩
theorem lw_p3 : lw_okq (⟨"GlassTax$Reader", "endsPart", "(ILGlassTax$House;)Z"⟩, 3) := ⟨⟨by decide +kernel, by decide +kernel⟩, List.mem_of_getElem? (i := 42) (by decide +kernel), List.mem_of_getElem? (i := 364) (by decide +kernel), List.mem_of_getElem? (i := 365) (by decide +kernel)⟩
theorem lw_p4 : lw_okq (⟨"GlassTax$Reader", "takesSeat", "(ILGlassTax$House;)Z"⟩, 3) := ⟨⟨by decide +kernel, by decide +kernel⟩, List.mem_of_getElem? (i := 42) (by decide +kernel), List.mem_of_getElem? (i := 368) (by decide +kernel), List.mem_of_getElem? (i := 369) (by decide +kernel)⟩
theorem lw_p5 : lw_okq (⟨"GlassTax", "acted", "(I)I"⟩, 15) := ⟨⟨by decide +kernel, by decide +kernel⟩, List.mem_of_getElem? (i := 17) (by decide +kernel), List.mem_of_getElem? (i := 461) (by decide +kernel), List.mem_of_getElem? (i := 462) (by decide +kernel)⟩
theorem lw_p6 : lw_okq (⟨"GlassTax$Table", "swallow", "(II)I"⟩, 5) := ⟨⟨by decide +kernel, by decide +kernel⟩, List.mem_of_getElem? (i := 108) (by decide +kernel), List.mem_of_getElem? (i := 484) (by decide +kernel), List.mem_of_getElem? (i := 485) (by decide +kernel)⟩
theorem lw_p7 : lw_okq (⟨"GlassTax$Table", "ageByHour", "(I)V"⟩, 5) := ⟨⟨by decide +kernel, by decide +kernel⟩, List.mem_of_getElem? (i := 108) (by decide +kernel), List.mem_of_getElem? (i := 504) (by decide +kernel), List.mem_of_getElem? (i := 505) (by decide +kernel)⟩
theorem lw_p8 : lw_okq (⟨"GlassTax$Search", "weighPours", "(I)V"⟩, 7) := ⟨⟨by decide +kernel, by decide +kernel⟩, List.mem_of_getElem? (i := 196) (by decide +kernel), List.mem_of_getElem? (i := 560) (by decide +kernel), List.mem_of_getElem? (i := 561) (by decide +kernel)⟩
theorem lw_p9 : lw_okq (⟨"GlassTax$Search", "keepLess", "(II)V"⟩, 7) := ⟨⟨by decide +kernel, by decide +kernel⟩, List.mem_of_getElem? (i := 196) (by decide +kernel), List.mem_of_getElem? (i := 568) (by decide +kernel), List.mem_of_getElem? (i := 569) (by decide +kernel)⟩
theorem lw_p10 : lw_okq (⟨"GlassTax$Search", "roomBehind", "(I)I"⟩, 7) := ⟨⟨by decide +kernel, by decide +kernel⟩, List.mem_of_getElem? (i := 196) (by decide +kernel), List.mem_of_getElem? (i := 572) (by decide +kernel), List.mem_of_getElem? (i := 573) (by decide +kernel)⟩
theorem lw_p11 : lw_okq (⟨"GlassTax$Search", "isEnough", "(I)Z"⟩, 7) := ⟨⟨by decide +kernel, by decide +kernel⟩, List.mem_of_getElem? (i := 196) (by decide +kernel), List.mem_of_getElem? (i := 594) (by decide +kernel), List.mem_of_getElem? (i := 595) (by decide +kernel)⟩
theorem lw_p12 : lw_okq (⟨"GlassTax$Search", "weighTurns", "(I)V"⟩, 7) := ⟨⟨by decide +kernel, by decide +kernel⟩, List.mem_of_getElem? (i := 196) (by decide +kernel), List.mem_of_getElem? (i := 614) (by decide +kernel), List.mem_of_getElem? (i := 615) (by decide +kernel)⟩
theorem lw_p13 : lw_okq (⟨"GlassTax$Seen", "fits", "(III)Z"⟩, 4) := ⟨⟨by decide +kernel, by decide +kernel⟩, List.mem_of_getElem? (i := 176) (by decide +kernel), List.mem_of_getElem? (i := 662) (by decide +kernel), List.mem_of_getElem? (i := 663) (by decide +kernel)⟩
theorem lw_p14 : lw_okq (⟨"GlassTax$Chances", "taxesOf", "(I)I"⟩, 3) := ⟨⟨by decide +kernel, by decide +kernel⟩, List.mem_of_getElem? (i := 226) (by decide +kernel), List.mem_of_getElem? (i := 676) (by decide +kernel), List.mem_of_getElem? (i := 677) (by decide +kernel)⟩
theorem lw_p15 : lw_okq (⟨"GlassTax$Chances", "ordersWith", "(I)I"⟩, 3) := ⟨⟨by decide +kernel, by decide +kernel⟩, List.mem_of_getElem? (i := 226) (by decide +kernel), List.mem_of_getElem? (i := 684) (by decide +kernel), List.mem_of_getElem? (i := 685) (by decide +kernel)⟩
def lw_privs_1 : List (MethodName × Nat) := [(⟨"GlassTax$Reader", "takes", "(ILGlassTax$House;)Z"⟩, 3), (⟨"GlassTax$Reader", "takesPart", "(ILGlassTax$House;)Z"⟩, 3), (⟨"GlassTax$Reader", "takesFigure", "(ILGlassTax$House;)Z"⟩, 3), (⟨"GlassTax$Reader", "endsPart", "(ILGlassTax$House;)Z"⟩, 3), (⟨"GlassTax$Reader", "takesSeat", "(ILGlassTax$House;)Z"⟩, 3), (⟨"GlassTax", "acted", "(I)I"⟩, 15), (⟨"GlassTax$Table", "swallow", "(II)I"⟩, 5), (⟨"GlassTax$Table", "ageByHour", "(I)V"⟩, 5), (⟨"GlassTax$Search", "weighPours", "(I)V"⟩, 7), (⟨"GlassTax$Search", "keepLess", "(II)V"⟩, 7), (⟨"GlassTax$Search", "roomBehind", "(I)I"⟩, 7), (⟨"GlassTax$Search", "isEnough", "(I)Z"⟩, 7), (⟨"GlassTax$Search", "weighTurns", "(I)V"⟩, 7), (⟨"GlassTax$Seen", "fits", "(III)Z"⟩, 4), (⟨"GlassTax$Chances", "taxesOf", "(I)I"⟩, 3), (⟨"GlassTax$Chances", "ordersWith", "(I)I"⟩, 3)]
theorem lw_r1 : ∀ q ∈ lw_privs_1, lw_okq q := List.forall_mem_cons.mpr ⟨lw_p0, List.forall_mem_cons.mpr ⟨lw_p1, List.forall_mem_cons.mpr ⟨lw_p2, List.forall_mem_cons.mpr ⟨lw_p3, List.forall_mem_cons.mpr ⟨lw_p4, List.forall_mem_cons.mpr ⟨lw_p5, List.forall_mem_cons.mpr ⟨lw_p6, List.forall_mem_cons.mpr ⟨lw_p7, List.forall_mem_cons.mpr ⟨lw_p8, List.forall_mem_cons.mpr ⟨lw_p9, List.forall_mem_cons.mpr ⟨lw_p10, List.forall_mem_cons.mpr ⟨lw_p11, List.forall_mem_cons.mpr ⟨lw_p12, List.forall_mem_cons.mpr ⟨lw_p13, List.forall_mem_cons.mpr ⟨lw_p14, List.forall_mem_cons.mpr ⟨lw_p15, fun _ h => absurd h List.not_mem_nil⟩⟩⟩⟩⟩⟩⟩⟩⟩⟩⟩⟩⟩⟩⟩⟩
theorem lw_p16 : lw_okq (⟨"GlassTax$Pair", "isRest", "(II)Z"⟩, 6) := ⟨⟨by decide +kernel, by decide +kernel⟩, List.mem_of_getElem? (i := 242) (by decide +kernel), List.mem_of_getElem? (i := 712) (by decide +kernel), List.mem_of_getElem? (i := 713) (by decide +kernel)⟩
theorem lw_p17 : lw_okq (⟨"GlassTax$Pair", "oneHas", "(II)I"⟩, 6) := ⟨⟨by decide +kernel, by decide +kernel⟩, List.mem_of_getElem? (i := 242) (by decide +kernel), List.mem_of_getElem? (i := 716) (by decide +kernel), List.mem_of_getElem? (i := 717) (by decide +kernel)⟩
theorem lw_p18 : lw_okq (⟨"GlassTax$Pair", "otherHas", "(II)I"⟩, 6) := ⟨⟨by decide +kernel, by decide +kernel⟩, List.mem_of_getElem? (i := 242) (by decide +kernel), List.mem_of_getElem? (i := 721) (by decide +kernel), List.mem_of_getElem? (i := 722) (by decide +kernel)⟩
theorem lw_p19 : lw_okq (⟨"GlassTax$Chances", "taxesByLeaks", "(I)I"⟩, 3) := ⟨⟨by decide +kernel, by decide +kernel⟩, List.mem_of_getElem? (i := 226) (by decide +kernel), List.mem_of_getElem? (i := 733) (by decide +kernel), List.mem_of_getElem? (i := 734) (by decide +kernel)⟩
theorem lw_p20 : lw_okq (⟨"GlassTaxModel", "readText", "()I"⟩, 26) := ⟨⟨by decide +kernel, by decide +kernel⟩, List.mem_of_getElem? (i := 770) (by decide +kernel), List.mem_of_getElem? (i := 872) (by decide +kernel), List.mem_of_getElem? (i := 873) (by decide +kernel)⟩
theorem lw_p21 : lw_okq (⟨"GlassTaxModel", "readPart", "(I)V"⟩, 26) := ⟨⟨by decide +kernel, by decide +kernel⟩, List.mem_of_getElem? (i := 770) (by decide +kernel), List.mem_of_getElem? (i := 876) (by decide +kernel), List.mem_of_getElem? (i := 877) (by decide +kernel)⟩
theorem lw_p22 : lw_okq (⟨"GlassTaxModel", "figureOf", "(I)I"⟩, 26) := ⟨⟨by decide +kernel, by decide +kernel⟩, List.mem_of_getElem? (i := 770) (by decide +kernel), List.mem_of_getElem? (i := 880) (by decide +kernel), List.mem_of_getElem? (i := 881) (by decide +kernel)⟩
theorem lw_p23 : lw_okq (⟨"GlassTaxModel", "firstsLeft", "()I"⟩, 26) := ⟨⟨by decide +kernel, by decide +kernel⟩, List.mem_of_getElem? (i := 770) (by decide +kernel), List.mem_of_getElem? (i := 888) (by decide +kernel), List.mem_of_getElem? (i := 889) (by decide +kernel)⟩
theorem lw_p24 : lw_okq (⟨"GlassTaxModel", "freeOf", "(I)I"⟩, 26) := ⟨⟨by decide +kernel, by decide +kernel⟩, List.mem_of_getElem? (i := 770) (by decide +kernel), List.mem_of_getElem? (i := 892) (by decide +kernel), List.mem_of_getElem? (i := 893) (by decide +kernel)⟩
theorem lw_p25 : lw_okq (⟨"GlassTaxModel", "isGlass", "(I)Z"⟩, 26) := ⟨⟨by decide +kernel, by decide +kernel⟩, List.mem_of_getElem? (i := 770) (by decide +kernel), List.mem_of_getElem? (i := 904) (by decide +kernel), List.mem_of_getElem? (i := 905) (by decide +kernel)⟩
theorem lw_p26 : lw_okq (⟨"GlassTaxModel", "taxOn", "(II)I"⟩, 26) := ⟨⟨by decide +kernel, by decide +kernel⟩, List.mem_of_getElem? (i := 770) (by decide +kernel), List.mem_of_getElem? (i := 908) (by decide +kernel), List.mem_of_getElem? (i := 909) (by decide +kernel)⟩
theorem lw_p27 : lw_okq (⟨"GlassTaxModel", "sittersAt", "(I)I"⟩, 26) := ⟨⟨by decide +kernel, by decide +kernel⟩, List.mem_of_getElem? (i := 770) (by decide +kernel), List.mem_of_getElem? (i := 912) (by decide +kernel), List.mem_of_getElem? (i := 913) (by decide +kernel)⟩
theorem lw_p28 : lw_okq (⟨"GlassTaxModel", "isDrinker", "(I)Z"⟩, 26) := ⟨⟨by decide +kernel, by decide +kernel⟩, List.mem_of_getElem? (i := 770) (by decide +kernel), List.mem_of_getElem? (i := 920) (by decide +kernel), List.mem_of_getElem? (i := 921) (by decide +kernel)⟩
theorem lw_p29 : lw_okq (⟨"GlassTaxModel", "roomIn", "(II)I"⟩, 26) := ⟨⟨by decide +kernel, by decide +kernel⟩, List.mem_of_getElem? (i := 770) (by decide +kernel), List.mem_of_getElem? (i := 934) (by decide +kernel), List.mem_of_getElem? (i := 935) (by decide +kernel)⟩
theorem lw_p30 : lw_okq (⟨"GlassTaxModel", "keepAct", "()V"⟩, 26) := ⟨⟨by decide +kernel, by decide +kernel⟩, List.mem_of_getElem? (i := 770) (by decide +kernel), List.mem_of_getElem? (i := 938) (by decide +kernel), List.mem_of_getElem? (i := 939) (by decide +kernel)⟩
theorem lw_p31 : lw_okq (⟨"GlassTaxModel", "pourOn", "(III)I"⟩, 26) := ⟨⟨by decide +kernel, by decide +kernel⟩, List.mem_of_getElem? (i := 770) (by decide +kernel), List.mem_of_getElem? (i := 942) (by decide +kernel), List.mem_of_getElem? (i := 943) (by decide +kernel)⟩
def lw_privs_2 : List (MethodName × Nat) := [(⟨"GlassTax$Pair", "isRest", "(II)Z"⟩, 6), (⟨"GlassTax$Pair", "oneHas", "(II)I"⟩, 6), (⟨"GlassTax$Pair", "otherHas", "(II)I"⟩, 6), (⟨"GlassTax$Chances", "taxesByLeaks", "(I)I"⟩, 3), (⟨"GlassTaxModel", "readText", "()I"⟩, 26), (⟨"GlassTaxModel", "readPart", "(I)V"⟩, 26), (⟨"GlassTaxModel", "figureOf", "(I)I"⟩, 26), (⟨"GlassTaxModel", "firstsLeft", "()I"⟩, 26), (⟨"GlassTaxModel", "freeOf", "(I)I"⟩, 26), (⟨"GlassTaxModel", "isGlass", "(I)Z"⟩, 26), (⟨"GlassTaxModel", "taxOn", "(II)I"⟩, 26), (⟨"GlassTaxModel", "sittersAt", "(I)I"⟩, 26), (⟨"GlassTaxModel", "isDrinker", "(I)Z"⟩, 26), (⟨"GlassTaxModel", "roomIn", "(II)I"⟩, 26), (⟨"GlassTaxModel", "keepAct", "()V"⟩, 26), (⟨"GlassTaxModel", "pourOn", "(III)I"⟩, 26)]
theorem lw_r2 : ∀ q ∈ lw_privs_2, lw_okq q := List.forall_mem_cons.mpr ⟨lw_p16, List.forall_mem_cons.mpr ⟨lw_p17, List.forall_mem_cons.mpr ⟨lw_p18, List.forall_mem_cons.mpr ⟨lw_p19, List.forall_mem_cons.mpr ⟨lw_p20, List.forall_mem_cons.mpr ⟨lw_p21, List.forall_mem_cons.mpr ⟨lw_p22, List.forall_mem_cons.mpr ⟨lw_p23, List.forall_mem_cons.mpr ⟨lw_p24, List.forall_mem_cons.mpr ⟨lw_p25, List.forall_mem_cons.mpr ⟨lw_p26, List.forall_mem_cons.mpr ⟨lw_p27, List.forall_mem_cons.mpr ⟨lw_p28, List.forall_mem_cons.mpr ⟨lw_p29, List.forall_mem_cons.mpr ⟨lw_p30, List.forall_mem_cons.mpr ⟨lw_p31, fun _ h => absurd h List.not_mem_nil⟩⟩⟩⟩⟩⟩⟩⟩⟩⟩⟩⟩⟩⟩⟩⟩
theorem lw_p32 : lw_okq (⟨"GlassTaxModel", "drinkOn", "(III)I"⟩, 26) := ⟨⟨by decide +kernel, by decide +kernel⟩, List.mem_of_getElem? (i := 770) (by decide +kernel), List.mem_of_getElem? (i := 950) (by decide +kernel), List.mem_of_getElem? (i := 951) (by decide +kernel)⟩
theorem lw_p33 : lw_okq (⟨"GlassTaxModel", "canTip", "(III)Z"⟩, 26) := ⟨⟨by decide +kernel, by decide +kernel⟩, List.mem_of_getElem? (i := 770) (by decide +kernel), List.mem_of_getElem? (i := 958) (by decide +kernel), List.mem_of_getElem? (i := 959) (by decide +kernel)⟩
theorem lw_p34 : lw_okq (⟨"GlassTaxModel", "tipOn", "(III)I"⟩, 26) := ⟨⟨by decide +kernel, by decide +kernel⟩, List.mem_of_getElem? (i := 770) (by decide +kernel), List.mem_of_getElem? (i := 962) (by decide +kernel), List.mem_of_getElem? (i := 963) (by decide +kernel)⟩
theorem lw_p35 : lw_okq (⟨"GlassTaxModel", "passOn", "(I)V"⟩, 26) := ⟨⟨by decide +kernel, by decide +kernel⟩, List.mem_of_getElem? (i := 770) (by decide +kernel), List.mem_of_getElem? (i := 970) (by decide +kernel), List.mem_of_getElem? (i := 971) (by decide +kernel)⟩
theorem lw_p36 : lw_okq (⟨"GlassTaxModel", "taxes", "(I)I"⟩, 26) := ⟨⟨by decide +kernel, by decide +kernel⟩, List.mem_of_getElem? (i := 770) (by decide +kernel), List.mem_of_getElem? (i := 974) (by decide +kernel), List.mem_of_getElem? (i := 975) (by decide +kernel)⟩
theorem lw_p37 : lw_okq (⟨"GlassTaxModel", "layTrial", "()V"⟩, 26) := ⟨⟨by decide +kernel, by decide +kernel⟩, List.mem_of_getElem? (i := 770) (by decide +kernel), List.mem_of_getElem? (i := 986) (by decide +kernel), List.mem_of_getElem? (i := 987) (by decide +kernel)⟩
theorem lw_p38 : lw_okq (⟨"GlassTaxModel", "eveningOn", "(II)V"⟩, 26) := ⟨⟨by decide +kernel, by decide +kernel⟩, List.mem_of_getElem? (i := 770) (by decide +kernel), List.mem_of_getElem? (i := 990) (by decide +kernel), List.mem_of_getElem? (i := 991) (by decide +kernel)⟩
theorem lw_p39 : lw_okq (⟨"GlassTaxModel", "sitOn", "(II)V"⟩, 26) := ⟨⟨by decide +kernel, by decide +kernel⟩, List.mem_of_getElem? (i := 770) (by decide +kernel), List.mem_of_getElem? (i := 994) (by decide +kernel), List.mem_of_getElem? (i := 995) (by decide +kernel)⟩
theorem lw_p40 : lw_okq (⟨"GlassTaxModel", "thirst", "(IZ)I"⟩, 26) := ⟨⟨by decide +kernel, by decide +kernel⟩, List.mem_of_getElem? (i := 770) (by decide +kernel), List.mem_of_getElem? (i := 1002) (by decide +kernel), List.mem_of_getElem? (i := 1003) (by decide +kernel)⟩
theorem lw_p41 : lw_okq (⟨"GlassTaxModel", "taxesBy", "(I)I"⟩, 26) := ⟨⟨by decide +kernel, by decide +kernel⟩, List.mem_of_getElem? (i := 770) (by decide +kernel), List.mem_of_getElem? (i := 1016) (by decide +kernel), List.mem_of_getElem? (i := 1017) (by decide +kernel)⟩
theorem lw_p42 : lw_okq (⟨"GlassTaxModel", "thirstBy", "(I)I"⟩, 26) := ⟨⟨by decide +kernel, by decide +kernel⟩, List.mem_of_getElem? (i := 770) (by decide +kernel), List.mem_of_getElem? (i := 1031) (by decide +kernel), List.mem_of_getElem? (i := 1032) (by decide +kernel)⟩
theorem lw_p43 : lw_okq (⟨"GlassTaxModel", "tryThing", "(III)Z"⟩, 26) := ⟨⟨by decide +kernel, by decide +kernel⟩, List.mem_of_getElem? (i := 770) (by decide +kernel), List.mem_of_getElem? (i := 1048) (by decide +kernel), List.mem_of_getElem? (i := 1049) (by decide +kernel)⟩
theorem lw_p44 : lw_okq (⟨"GlassTaxModel", "taxesOf", "(I)I"⟩, 26) := ⟨⟨by decide +kernel, by decide +kernel⟩, List.mem_of_getElem? (i := 770) (by decide +kernel), List.mem_of_getElem? (i := 1071) (by decide +kernel), List.mem_of_getElem? (i := 1072) (by decide +kernel)⟩
theorem lw_p45 : lw_okq (⟨"GlassTaxModel", "isRest", "(IIII)Z"⟩, 26) := ⟨⟨by decide +kernel, by decide +kernel⟩, List.mem_of_getElem? (i := 770) (by decide +kernel), List.mem_of_getElem? (i := 1082) (by decide +kernel), List.mem_of_getElem? (i := 1083) (by decide +kernel)⟩
theorem lw_p46 : lw_okq (⟨"GlassTaxModel", "gain", "(IIIIZ)I"⟩, 26) := ⟨⟨by decide +kernel, by decide +kernel⟩, List.mem_of_getElem? (i := 770) (by decide +kernel), List.mem_of_getElem? (i := 1086) (by decide +kernel), List.mem_of_getElem? (i := 1087) (by decide +kernel)⟩
def lw_privs_3 : List (MethodName × Nat) := [(⟨"GlassTaxModel", "drinkOn", "(III)I"⟩, 26), (⟨"GlassTaxModel", "canTip", "(III)Z"⟩, 26), (⟨"GlassTaxModel", "tipOn", "(III)I"⟩, 26), (⟨"GlassTaxModel", "passOn", "(I)V"⟩, 26), (⟨"GlassTaxModel", "taxes", "(I)I"⟩, 26), (⟨"GlassTaxModel", "layTrial", "()V"⟩, 26), (⟨"GlassTaxModel", "eveningOn", "(II)V"⟩, 26), (⟨"GlassTaxModel", "sitOn", "(II)V"⟩, 26), (⟨"GlassTaxModel", "thirst", "(IZ)I"⟩, 26), (⟨"GlassTaxModel", "taxesBy", "(I)I"⟩, 26), (⟨"GlassTaxModel", "thirstBy", "(I)I"⟩, 26), (⟨"GlassTaxModel", "tryThing", "(III)Z"⟩, 26), (⟨"GlassTaxModel", "taxesOf", "(I)I"⟩, 26), (⟨"GlassTaxModel", "isRest", "(IIII)Z"⟩, 26), (⟨"GlassTaxModel", "gain", "(IIIIZ)I"⟩, 26)]
theorem lw_r3 : ∀ q ∈ lw_privs_3, lw_okq q := List.forall_mem_cons.mpr ⟨lw_p32, List.forall_mem_cons.mpr ⟨lw_p33, List.forall_mem_cons.mpr ⟨lw_p34, List.forall_mem_cons.mpr ⟨lw_p35, List.forall_mem_cons.mpr ⟨lw_p36, List.forall_mem_cons.mpr ⟨lw_p37, List.forall_mem_cons.mpr ⟨lw_p38, List.forall_mem_cons.mpr ⟨lw_p39, List.forall_mem_cons.mpr ⟨lw_p40, List.forall_mem_cons.mpr ⟨lw_p41, List.forall_mem_cons.mpr ⟨lw_p42, List.forall_mem_cons.mpr ⟨lw_p43, List.forall_mem_cons.mpr ⟨lw_p44, List.forall_mem_cons.mpr ⟨lw_p45, List.forall_mem_cons.mpr ⟨lw_p46, fun _ h => absurd h List.not_mem_nil⟩⟩⟩⟩⟩⟩⟩⟩⟩⟩⟩⟩⟩⟩⟩
def lw_privs : List (MethodName × Nat) := lw_privs_1 ++ (lw_privs_2 ++ (lw_privs_3))
def lw_tbl : List Cond := k2_sels lw_privs ++ tables_1
theorem lw_privs_ok : ∀ q ∈ lw_privs, lw_okq q := by
  show ∀ q ∈ lw_privs_1 ++ (lw_privs_2 ++ (lw_privs_3)), lw_okq q
  exact List.forall_mem_append.mpr ⟨lw_r1, List.forall_mem_append.mpr ⟨lw_r2, lw_r3⟩⟩
end
section
def RX0 : String := "GlassTax$Acts"
def TX0 : u_T := fun k => match k with
  | 0 => ("GlassTax$Acts", "ring", "LGlassTax$Shelf;", true)
  | 1 => ("GlassTax$Acts", "next", "I", false)
  | _ => ("GlassTax$Acts", "size", "I", false)
def tyX0 : Nat → FieldType := fun k => match k with
  | 0 => .object "GlassTax$Shelf"
  | 1 => .int
  | _ => .int
abbrev wsX00 : List Cond := u_ws RX0 TX0 3
theorem nmX0 : ∀ a, a < 3 → ∀ b, b < 3 → a ≠ b → (TX0 a).2.1 ≠ (TX0 b).2.1 := by decide +kernel
theorem tyX0_ok : ∀ k, k < 3 → parseFieldDescriptor (TX0 k).2.2.1 = some (tyX0 k) := by decide +kernel
abbrev cX0_init : ByteArray := prog_2_method_1_code
def yX0_init : MethodName := ⟨RX0, "<init>", "()V"⟩
abbrev cX0_push : ByteArray := prog_2_method_2_code
def yX0_push : MethodName := ⟨RX0, "push", "(LGlassTax$Table;)V"⟩
abbrev cX0_pop : ByteArray := prog_2_method_3_code
def yX0_pop : MethodName := ⟨RX0, "pop", "(LGlassTax$Table;)V"⟩
abbrev cX0_forgetAll : ByteArray := prog_2_method_4_code
def yX0_forgetAll : MethodName := ⟨RX0, "forgetAll", "()V"⟩
def RX1 : String := "GlassTax$Chances"
def TX1 : u_T := fun k => match k with
  | 0 => ("GlassTax$Chances", "house", "LGlassTax$House;", true)
  | 1 => ("GlassTax$Chances", "now", "LGlassTax$Table;", true)
  | _ => ("GlassTax$Chances", "trial", "LGlassTax$Table;", true)
def tyX1 : Nat → FieldType := fun k => match k with
  | 0 => .object "GlassTax$House"
  | 1 => .object "GlassTax$Table"
  | _ => .object "GlassTax$Table"
abbrev wsX10 : List Cond := u_ws RX1 TX1 3
theorem nmX1 : ∀ a, a < 3 → ∀ b, b < 3 → a ≠ b → (TX1 a).2.1 ≠ (TX1 b).2.1 := by decide +kernel
theorem tyX1_ok : ∀ k, k < 3 → parseFieldDescriptor (TX1 k).2.2.1 = some (tyX1 k) := by decide +kernel
abbrev cX1_init : ByteArray := prog_3_method_1_code
def yX1_init : MethodName := ⟨RX1, "<init>", "(LGlassTax$House;LGlassTax$Table;LGlassTax$Table;)V"⟩
abbrev cX1_shareOf : ByteArray := prog_3_method_2_code
def yX1_shareOf : MethodName := ⟨RX1, "shareOf", "(IZ)I"⟩
abbrev cX1_ordersWith : ByteArray := prog_3_method_3_code
def yX1_ordersWith : MethodName := ⟨RX1, "ordersWith", "(I)I"⟩
abbrev cX1_orders : ByteArray := prog_3_method_4_code
def yX1_orders : MethodName := ⟨RX1, "orders", "(I)I"⟩
abbrev cX1_taxesOf : ByteArray := prog_3_method_5_code
def yX1_taxesOf : MethodName := ⟨RX1, "taxesOf", "(I)I"⟩
abbrev cX1_leakOf : ByteArray := prog_3_method_6_code
def yX1_leakOf : MethodName := ⟨RX1, "leakOf", "(IIZ)I"⟩
abbrev cX1_taxesByLeaks : ByteArray := prog_3_method_7_code
def yX1_taxesByLeaks : MethodName := ⟨RX1, "taxesByLeaks", "(I)I"⟩
abbrev cX1_weightOf : ByteArray := prog_3_method_8_code
def yX1_weightOf : MethodName := ⟨RX1, "weightOf", "(III)I"⟩
def RX2 : String := "GlassTax$House"
def TX2 : u_T := fun k => match k with
  | 0 => ("GlassTax$House", "glasses", "I", false)
  | 1 => ("GlassTax$House", "drinkers", "I", false)
  | 2 => ("GlassTax$House", "measures", "[I", true)
  | 3 => ("GlassTax$House", "poured", "[I", true)
  | 4 => ("GlassTax$House", "glassKinds", "[I", true)
  | 5 => ("GlassTax$House", "thirstsAtFirst", "[I", true)
  | 6 => ("GlassTax$House", "drinkerKinds", "[I", true)
  | _ => ("GlassTax$House", "seats", "[I", true)
def tyX2 : Nat → FieldType := fun k => match k with
  | 0 => .int
  | 1 => .int
  | 2 => .array .int
  | 3 => .array .int
  | 4 => .array .int
  | 5 => .array .int
  | 6 => .array .int
  | _ => .array .int
abbrev wsX20 : List Cond := u_ws RX2 TX2 8
theorem nmX2 : ∀ a, a < 8 → ∀ b, b < 8 → a ≠ b → (TX2 a).2.1 ≠ (TX2 b).2.1 := by decide +kernel
theorem tyX2_ok : ∀ k, k < 8 → parseFieldDescriptor (TX2 k).2.2.1 = some (tyX2 k) := by decide +kernel
abbrev cX2_init : ByteArray := prog_4_method_1_code
def yX2_init : MethodName := ⟨RX2, "<init>", "()V"⟩
abbrev cX2_clear : ByteArray := prog_4_method_2_code
def yX2_clear : MethodName := ⟨RX2, "clear", "()V"⟩
abbrev cX2_copyFrom : ByteArray := prog_4_method_3_code
def yX2_copyFrom : MethodName := ⟨RX2, "copyFrom", "(LGlassTax$House;)V"⟩
abbrev cX2_addGlass : ByteArray := prog_4_method_4_code
def yX2_addGlass : MethodName := ⟨RX2, "addGlass", "(III)V"⟩
abbrev cX2_addDrinker : ByteArray := prog_4_method_5_code
def yX2_addDrinker : MethodName := ⟨RX2, "addDrinker", "(II)V"⟩
abbrev cX2_hasGlass : ByteArray := prog_4_method_6_code
def yX2_hasGlass : MethodName := ⟨RX2, "hasGlass", "(I)Z"⟩
abbrev cX2_hasDrinker : ByteArray := prog_4_method_7_code
def yX2_hasDrinker : MethodName := ⟨RX2, "hasDrinker", "(I)Z"⟩
abbrev cX2_sits : ByteArray := prog_4_method_8_code
def yX2_sits : MethodName := ⟨RX2, "sits", "(II)Z"⟩
abbrev cX2_canSit : ByteArray := prog_4_method_9_code
def yX2_canSit : MethodName := ⟨RX2, "canSit", "(I)Z"⟩
abbrev cX2_anyCanSit : ByteArray := prog_4_method_10_code
def yX2_anyCanSit : MethodName := ⟨RX2, "anyCanSit", "()Z"⟩
abbrev cX2_sittersAt : ByteArray := prog_4_method_11_code
def yX2_sittersAt : MethodName := ⟨RX2, "sittersAt", "(I)I"⟩
def RX3 : String := "GlassTax$Letters"
def TX3 : u_T := fun k => match k with
  | 0 => ("GlassTax$Letters", "signs", "[I", true)
  | _ => ("GlassTax$Letters", "length", "I", false)
def tyX3 : Nat → FieldType := fun k => match k with
  | 0 => .array .int
  | _ => .int
abbrev wsX30 : List Cond := u_ws RX3 TX3 2
theorem nmX3 : ∀ a, a < 2 → ∀ b, b < 2 → a ≠ b → (TX3 a).2.1 ≠ (TX3 b).2.1 := by decide +kernel
theorem tyX3_ok : ∀ k, k < 2 → parseFieldDescriptor (TX3 k).2.2.1 = some (tyX3 k) := by decide +kernel
abbrev cX3_init : ByteArray := prog_5_method_1_code
def yX3_init : MethodName := ⟨RX3, "<init>", "()V"⟩
abbrev cX3_add : ByteArray := prog_5_method_2_code
def yX3_add : MethodName := ⟨RX3, "add", "(I)I"⟩
def RX4 : String := "GlassTax$Pair"
def TX4 : u_T := fun k => match k with
  | 0 => ("GlassTax$Pair", "house", "LGlassTax$House;", true)
  | 1 => ("GlassTax$Pair", "now", "LGlassTax$Table;", true)
  | 2 => ("GlassTax$Pair", "one", "I", false)
  | 3 => ("GlassTax$Pair", "other", "I", false)
  | 4 => ("GlassTax$Pair", "found", "I", false)
  | _ => ("GlassTax$Pair", "first", "I", false)
def tyX4 : Nat → FieldType := fun k => match k with
  | 0 => .object "GlassTax$House"
  | 1 => .object "GlassTax$Table"
  | 2 => .int
  | 3 => .int
  | 4 => .int
  | _ => .int
abbrev wsX40 : List Cond := u_ws RX4 TX4 6
theorem nmX4 : ∀ a, a < 6 → ∀ b, b < 6 → a ≠ b → (TX4 a).2.1 ≠ (TX4 b).2.1 := by decide +kernel
theorem tyX4_ok : ∀ k, k < 6 → parseFieldDescriptor (TX4 k).2.2.1 = some (tyX4 k) := by decide +kernel
abbrev cX4_init : ByteArray := prog_6_method_1_code
def yX4_init : MethodName := ⟨RX4, "<init>", "(LGlassTax$House;LGlassTax$Table;)V"⟩
abbrev cX4_findRests : ByteArray := prog_6_method_2_code
def yX4_findRests : MethodName := ⟨RX4, "findRests", "(II)V"⟩
abbrev cX4_isRest : ByteArray := prog_6_method_3_code
def yX4_isRest : MethodName := ⟨RX4, "isRest", "(II)Z"⟩
abbrev cX4_oneHas : ByteArray := prog_6_method_4_code
def yX4_oneHas : MethodName := ⟨RX4, "oneHas", "(II)I"⟩
abbrev cX4_otherHas : ByteArray := prog_6_method_5_code
def yX4_otherHas : MethodName := ⟨RX4, "otherHas", "(II)I"⟩
def RX5 : String := "GlassTax$Reader"
def TX5 : u_T := fun k => match k with
  | 0 => ("GlassTax$Reader", "awaits", "I", false)
  | 1 => ("GlassTax$Reader", "first", "I", false)
  | _ => ("GlassTax$Reader", "second", "I", false)
def tyX5 : Nat → FieldType := fun k => match k with
  | 0 => .int
  | 1 => .int
  | _ => .int
abbrev wsX50 : List Cond := u_ws RX5 TX5 3
theorem nmX5 : ∀ a, a < 3 → ∀ b, b < 3 → a ≠ b → (TX5 a).2.1 ≠ (TX5 b).2.1 := by decide +kernel
theorem tyX5_ok : ∀ k, k < 3 → parseFieldDescriptor (TX5 k).2.2.1 = some (tyX5 k) := by decide +kernel
abbrev cX5_init : ByteArray := prog_7_method_1_code
def yX5_init : MethodName := ⟨RX5, "<init>", "()V"⟩
abbrev cX5_read : ByteArray := prog_7_method_2_code
def yX5_read : MethodName := ⟨RX5, "read", "(LGlassTax$Letters;LGlassTax$House;)I"⟩
abbrev cX5_takes : ByteArray := prog_7_method_3_code
def yX5_takes : MethodName := ⟨RX5, "takes", "(ILGlassTax$House;)Z"⟩
abbrev cX5_takesPart : ByteArray := prog_7_method_4_code
def yX5_takesPart : MethodName := ⟨RX5, "takesPart", "(ILGlassTax$House;)Z"⟩
abbrev cX5_takesFigure : ByteArray := prog_7_method_5_code
def yX5_takesFigure : MethodName := ⟨RX5, "takesFigure", "(ILGlassTax$House;)Z"⟩
abbrev cX5_endsPart : ByteArray := prog_7_method_6_code
def yX5_endsPart : MethodName := ⟨RX5, "endsPart", "(ILGlassTax$House;)Z"⟩
abbrev cX5_takesSeat : ByteArray := prog_7_method_7_code
def yX5_takesSeat : MethodName := ⟨RX5, "takesSeat", "(ILGlassTax$House;)Z"⟩
def RX6 : String := "GlassTax$Search"
def TX6 : u_T := fun k => match k with
  | 0 => ("GlassTax$Search", "house", "LGlassTax$House;", true)
  | 1 => ("GlassTax$Search", "now", "LGlassTax$Table;", true)
  | 2 => ("GlassTax$Search", "trial", "LGlassTax$Table;", true)
  | 3 => ("GlassTax$Search", "pours", "[I", true)
  | 4 => ("GlassTax$Search", "turns", "[I", true)
  | 5 => ("GlassTax$Search", "least", "I", false)
  | _ => ("GlassTax$Search", "found", "I", false)
def tyX6 : Nat → FieldType := fun k => match k with
  | 0 => .object "GlassTax$House"
  | 1 => .object "GlassTax$Table"
  | 2 => .object "GlassTax$Table"
  | 3 => .array .int
  | 4 => .array .int
  | 5 => .int
  | _ => .int
abbrev wsX60 : List Cond := u_ws RX6 TX6 7
theorem nmX6 : ∀ a, a < 7 → ∀ b, b < 7 → a ≠ b → (TX6 a).2.1 ≠ (TX6 b).2.1 := by decide +kernel
theorem tyX6_ok : ∀ k, k < 7 → parseFieldDescriptor (TX6 k).2.2.1 = some (tyX6 k) := by decide +kernel
abbrev cX6_init : ByteArray := prog_8_method_1_code
def yX6_init : MethodName := ⟨RX6, "<init>", "(LGlassTax$House;LGlassTax$Table;LGlassTax$Table;)V"⟩
abbrev cX6_startAnew : ByteArray := prog_8_method_2_code
def yX6_startAnew : MethodName := ⟨RX6, "startAnew", "()V"⟩
abbrev cX6_tryPours : ByteArray := prog_8_method_3_code
def yX6_tryPours : MethodName := ⟨RX6, "tryPours", "(III)V"⟩
abbrev cX6_roomBehind : ByteArray := prog_8_method_4_code
def yX6_roomBehind : MethodName := ⟨RX6, "roomBehind", "(I)I"⟩
abbrev cX6_weighPours : ByteArray := prog_8_method_5_code
def yX6_weighPours : MethodName := ⟨RX6, "weighPours", "(I)V"⟩
abbrev cX6_keepLess : ByteArray := prog_8_method_6_code
def yX6_keepLess : MethodName := ⟨RX6, "keepLess", "(II)V"⟩
abbrev cX6_fewestForWake : ByteArray := prog_8_method_7_code
def yX6_fewestForWake : MethodName := ⟨RX6, "fewestForWake", "()I"⟩
abbrev cX6_isEnough : ByteArray := prog_8_method_8_code
def yX6_isEnough : MethodName := ⟨RX6, "isEnough", "(I)Z"⟩
abbrev cX6_tryTurns : ByteArray := prog_8_method_9_code
def yX6_tryTurns : MethodName := ⟨RX6, "tryTurns", "(III)V"⟩
abbrev cX6_weighTurns : ByteArray := prog_8_method_10_code
def yX6_weighTurns : MethodName := ⟨RX6, "weighTurns", "(I)V"⟩
def RX7 : String := "GlassTax$Seen"
def TX7 : u_T := fun k => match k with
  | 0 => ("GlassTax$Seen", "drinkers", "[I", true)
  | 1 => ("GlassTax$Seen", "ahead", "[I", true)
  | 2 => ("GlassTax$Seen", "behind", "[I", true)
  | _ => ("GlassTax$Seen", "size", "I", false)
def tyX7 : Nat → FieldType := fun k => match k with
  | 0 => .array .int
  | 1 => .array .int
  | 2 => .array .int
  | _ => .int
abbrev wsX70 : List Cond := u_ws RX7 TX7 4
theorem nmX7 : ∀ a, a < 4 → ∀ b, b < 4 → a ≠ b → (TX7 a).2.1 ≠ (TX7 b).2.1 := by decide +kernel
theorem tyX7_ok : ∀ k, k < 4 → parseFieldDescriptor (TX7 k).2.2.1 = some (tyX7 k) := by decide +kernel
abbrev cX7_init : ByteArray := prog_9_method_1_code
def yX7_init : MethodName := ⟨RX7, "<init>", "()V"⟩
abbrev cX7_add : ByteArray := prog_9_method_2_code
def yX7_add : MethodName := ⟨RX7, "add", "(III)I"⟩
abbrev cX7_thirstsOf : ByteArray := prog_9_method_3_code
def yX7_thirstsOf : MethodName := ⟨RX7, "thirstsOf", "(II)I"⟩
abbrev cX7_fits : ByteArray := prog_9_method_4_code
def yX7_fits : MethodName := ⟨RX7, "fits", "(III)Z"⟩
def RX8 : String := "GlassTax$Shelf"
def TX8 : u_T := fun k => match k with
  | 0 => ("GlassTax$Shelf", "places", "I", true)
  | _ => ("GlassTax$Shelf", "cells", "[I", true)
def tyX8 : Nat → FieldType := fun k => match k with
  | 0 => .int
  | _ => .array .int
abbrev wsX80 : List Cond := u_ws RX8 TX8 2
theorem nmX8 : ∀ a, a < 2 → ∀ b, b < 2 → a ≠ b → (TX8 a).2.1 ≠ (TX8 b).2.1 := by decide +kernel
theorem tyX8_ok : ∀ k, k < 2 → parseFieldDescriptor (TX8 k).2.2.1 = some (tyX8 k) := by decide +kernel
abbrev cX8_init : ByteArray := prog_10_method_1_code
def yX8_init : MethodName := ⟨RX8, "<init>", "(I)V"⟩
abbrev cX8_lay : ByteArray := prog_10_method_2_code
def yX8_lay : MethodName := ⟨RX8, "lay", "(ILGlassTax$Table;)V"⟩
abbrev cX8_fetch : ByteArray := prog_10_method_3_code
def yX8_fetch : MethodName := ⟨RX8, "fetch", "(ILGlassTax$Table;)V"⟩
def RX9 : String := "GlassTax$Table"
def TX9 : u_T := fun k => match k with
  | 0 => ("GlassTax$Table", "house", "LGlassTax$House;", true)
  | 1 => ("GlassTax$Table", "contents", "[I", true)
  | 2 => ("GlassTax$Table", "ages", "[I", true)
  | 3 => ("GlassTax$Table", "thirsts", "[I", true)
  | _ => ("GlassTax$Table", "hours", "I", false)
def tyX9 : Nat → FieldType := fun k => match k with
  | 0 => .object "GlassTax$House"
  | 1 => .array .int
  | 2 => .array .int
  | 3 => .array .int
  | _ => .int
abbrev wsX90 : List Cond := u_ws RX9 TX9 5
theorem nmX9 : ∀ a, a < 5 → ∀ b, b < 5 → a ≠ b → (TX9 a).2.1 ≠ (TX9 b).2.1 := by decide +kernel
theorem tyX9_ok : ∀ k, k < 5 → parseFieldDescriptor (TX9 k).2.2.1 = some (tyX9 k) := by decide +kernel
abbrev cX9_init : ByteArray := prog_11_method_1_code
def yX9_init : MethodName := ⟨RX9, "<init>", "(LGlassTax$House;)V"⟩
abbrev cX9_copyFrom : ByteArray := prog_11_method_2_code
def yX9_copyFrom : MethodName := ⟨RX9, "copyFrom", "(LGlassTax$Table;)V"⟩
abbrev cX9_openAnew : ByteArray := prog_11_method_3_code
def yX9_openAnew : MethodName := ⟨RX9, "openAnew", "()V"⟩
abbrev cX9_taxOf : ByteArray := prog_11_method_4_code
def yX9_taxOf : MethodName := ⟨RX9, "taxOf", "(I)I"⟩
abbrev cX9_taxes : ByteArray := prog_11_method_5_code
def yX9_taxes : MethodName := ⟨RX9, "taxes", "()I"⟩
abbrev cX9_thirstOfAll : ByteArray := prog_11_method_6_code
def yX9_thirstOfAll : MethodName := ⟨RX9, "thirstOfAll", "()I"⟩
abbrev cX9_roomIn : ByteArray := prog_11_method_7_code
def yX9_roomIn : MethodName := ⟨RX9, "roomIn", "(I)I"⟩
abbrev cX9_firstGulp : ByteArray := prog_11_method_8_code
def yX9_firstGulp : MethodName := ⟨RX9, "firstGulp", "(I)I"⟩
abbrev cX9_pourInto : ByteArray := prog_11_method_9_code
def yX9_pourInto : MethodName := ⟨RX9, "pourInto", "(II)I"⟩
abbrev cX9_drinkAt : ByteArray := prog_11_method_10_code
def yX9_drinkAt : MethodName := ⟨RX9, "drinkAt", "(II)I"⟩
abbrev cX9_tipOver : ByteArray := prog_11_method_11_code
def yX9_tipOver : MethodName := ⟨RX9, "tipOver", "(II)I"⟩
abbrev cX9_passHour : ByteArray := prog_11_method_12_code
def yX9_passHour : MethodName := ⟨RX9, "passHour", "()I"⟩
abbrev cX9_ageByHour : ByteArray := prog_11_method_13_code
def yX9_ageByHour : MethodName := ⟨RX9, "ageByHour", "(I)V"⟩
abbrev cX9_told : ByteArray := prog_11_method_14_code
def yX9_told : MethodName := ⟨RX9, "told", "(I)I"⟩
abbrev cX9_passChance : ByteArray := prog_11_method_15_code
def yX9_passChance : MethodName := ⟨RX9, "passChance", "(I)V"⟩
abbrev cX9_passEvening : ByteArray := prog_11_method_16_code
def yX9_passEvening : MethodName := ⟨RX9, "passEvening", "(I)V"⟩
abbrev cX9_drinkAround : ByteArray := prog_11_method_17_code
def yX9_drinkAround : MethodName := ⟨RX9, "drinkAround", "(I)V"⟩
abbrev cX9_swallow : ByteArray := prog_11_method_18_code
def yX9_swallow : MethodName := ⟨RX9, "swallow", "(II)I"⟩
abbrev cX9_fillOnly : ByteArray := prog_11_method_19_code
def yX9_fillOnly : MethodName := ⟨RX9, "fillOnly", "(I)V"⟩
abbrev cX9_isQuenched : ByteArray := prog_11_method_20_code
def yX9_isQuenched : MethodName := ⟨RX9, "isQuenched", "()Z"⟩
def RX10 : String := "GlassTax"
def TX10 : u_T := fun k => match k with
  | 0 => ("GlassTax", "letters", "LGlassTax$Letters;", true)
  | 1 => ("GlassTax", "reader", "LGlassTax$Reader;", true)
  | 2 => ("GlassTax", "draft", "LGlassTax$House;", true)
  | 3 => ("GlassTax", "house", "LGlassTax$House;", true)
  | 4 => ("GlassTax", "now", "LGlassTax$Table;", true)
  | 5 => ("GlassTax", "before", "LGlassTax$Table;", true)
  | 6 => ("GlassTax", "trial", "LGlassTax$Table;", true)
  | 7 => ("GlassTax", "acts", "LGlassTax$Acts;", true)
  | 8 => ("GlassTax", "slots", "LGlassTax$Shelf;", true)
  | 9 => ("GlassTax", "slotsKept", "I", false)
  | 10 => ("GlassTax", "seen", "LGlassTax$Seen;", true)
  | 11 => ("GlassTax", "search", "LGlassTax$Search;", true)
  | 12 => ("GlassTax", "chances", "LGlassTax$Chances;", true)
  | 13 => ("GlassTax", "pair", "LGlassTax$Pair;", true)
  | _ => ("GlassTax", "seedNow", "J", false)
def tyX10 : Nat → FieldType := fun k => match k with
  | 0 => .object "GlassTax$Letters"
  | 1 => .object "GlassTax$Reader"
  | 2 => .object "GlassTax$House"
  | 3 => .object "GlassTax$House"
  | 4 => .object "GlassTax$Table"
  | 5 => .object "GlassTax$Table"
  | 6 => .object "GlassTax$Table"
  | 7 => .object "GlassTax$Acts"
  | 8 => .object "GlassTax$Shelf"
  | 9 => .int
  | 10 => .object "GlassTax$Seen"
  | 11 => .object "GlassTax$Search"
  | 12 => .object "GlassTax$Chances"
  | 13 => .object "GlassTax$Pair"
  | _ => .long
abbrev wsX100 : List Cond := u_ws RX10 TX10 15
theorem nmX10 : ∀ a, a < 15 → ∀ b, b < 15 → a ≠ b → (TX10 a).2.1 ≠ (TX10 b).2.1 := by decide +kernel
theorem tyX10_ok : ∀ k, k < 15 → parseFieldDescriptor (TX10 k).2.2.1 = some (tyX10 k) := by decide +kernel
abbrev cX10_init : ByteArray := prog_1_method_1_code
def yX10_init : MethodName := ⟨RX10, "<init>", "()V"⟩
abbrev cX10_write : ByteArray := prog_1_method_2_code
def yX10_write : MethodName := ⟨RX10, "write", "(I)I"⟩
abbrev cX10_wipe : ByteArray := prog_1_method_3_code
def yX10_wipe : MethodName := ⟨RX10, "wipe", "()I"⟩
abbrev cX10_fault : ByteArray := prog_1_method_4_code
def yX10_fault : MethodName := ⟨RX10, "fault", "()I"⟩
abbrev cX10_inn : ByteArray := prog_1_method_5_code
def yX10_inn : MethodName := ⟨RX10, "inn", "()I"⟩
abbrev cX10_glass : ByteArray := prog_1_method_6_code
def yX10_glass : MethodName := ⟨RX10, "glass", "(II)I"⟩
abbrev cX10_drinker : ByteArray := prog_1_method_7_code
def yX10_drinker : MethodName := ⟨RX10, "drinker", "(II)I"⟩
abbrev cX10_pour : ByteArray := prog_1_method_8_code
def yX10_pour : MethodName := ⟨RX10, "pour", "(II)I"⟩
abbrev cX10_drink : ByteArray := prog_1_method_9_code
def yX10_drink : MethodName := ⟨RX10, "drink", "(II)I"⟩
abbrev cX10_tip : ByteArray := prog_1_method_10_code
def yX10_tip : MethodName := ⟨RX10, "tip", "(II)I"⟩
abbrev cX10_hour : ByteArray := prog_1_method_11_code
def yX10_hour : MethodName := ⟨RX10, "hour", "()I"⟩
abbrev cX10_acted : ByteArray := prog_1_method_12_code
def yX10_acted : MethodName := ⟨RX10, "acted", "(I)I"⟩
abbrev cX10_undo : ByteArray := prog_1_method_13_code
def yX10_undo : MethodName := ⟨RX10, "undo", "()I"⟩
abbrev cX10_left : ByteArray := prog_1_method_14_code
def yX10_left : MethodName := ⟨RX10, "left", "(I)I"⟩
abbrev cX10_evening : ByteArray := prog_1_method_15_code
def yX10_evening : MethodName := ⟨RX10, "evening", "(I)I"⟩
abbrev cX10_pouring : ByteArray := prog_1_method_16_code
def yX10_pouring : MethodName := ⟨RX10, "pouring", "(IZ)I"⟩
abbrev cX10_wake : ByteArray := prog_1_method_17_code
def yX10_wake : MethodName := ⟨RX10, "wake", "()I"⟩
abbrev cX10_order : ByteArray := prog_1_method_18_code
def yX10_order : MethodName := ⟨RX10, "order", "(Z)I"⟩
abbrev cX10_hall : ByteArray := prog_1_method_19_code
def yX10_hall : MethodName := ⟨RX10, "hall", "(I)I"⟩
abbrev cX10_judge : ByteArray := prog_1_method_20_code
def yX10_judge : MethodName := ⟨RX10, "judge", "(IJ)I"⟩
abbrev cX10_see : ByteArray := prog_1_method_21_code
def yX10_see : MethodName := ⟨RX10, "see", "(III)I"⟩
abbrev cX10_unsee : ByteArray := prog_1_method_22_code
def yX10_unsee : MethodName := ⟨RX10, "unsee", "()I"⟩
abbrev cX10_thirsts : ByteArray := prog_1_method_23_code
def yX10_thirsts : MethodName := ⟨RX10, "thirsts", "(I)I"⟩
abbrev cX10_share : ByteArray := prog_1_method_24_code
def yX10_share : MethodName := ⟨RX10, "share", "(IZ)I"⟩
abbrev cX10_rests : ByteArray := prog_1_method_25_code
def yX10_rests : MethodName := ⟨RX10, "rests", "(III)I"⟩
abbrev cX10_leak : ByteArray := prog_1_method_26_code
def yX10_leak : MethodName := ⟨RX10, "leak", "(IIZ)I"⟩
abbrev cX10_seed : ByteArray := prog_1_method_27_code
def yX10_seed : MethodName := ⟨RX10, "seed", "(J)J"⟩
abbrev cX10_nights : ByteArray := prog_1_method_28_code
def yX10_nights : MethodName := ⟨RX10, "nights", "(I)I"⟩
abbrev cX10_keep : ByteArray := prog_1_method_29_code
def yX10_keep : MethodName := ⟨RX10, "keep", "(I)I"⟩
abbrev cX10_again : ByteArray := prog_1_method_30_code
def yX10_again : MethodName := ⟨RX10, "again", "(I)I"⟩
abbrev cX10_count : ByteArray := prog_1_method_31_code
def yX10_count : MethodName := ⟨RX10, "count", "(I)I"⟩
abbrev cX10_hasBit : ByteArray := prog_1_method_32_code
def yX10_hasBit : MethodName := ⟨RX10, "hasBit", "(II)Z"⟩
abbrev cX10_gulp : ByteArray := prog_1_method_33_code
def yX10_gulp : MethodName := ⟨RX10, "gulp", "(III)I"⟩
abbrev cX10_fractionSide : ByteArray := prog_1_method_34_code
def yX10_fractionSide : MethodName := ⟨RX10, "fractionSide", "(IIZ)I"⟩
abbrev cX10_commonDivisor : ByteArray := prog_1_method_35_code
def yX10_commonDivisor : MethodName := ⟨RX10, "commonDivisor", "(II)I"⟩
def RX11 : String := "GlassTaxModel"
def TX11 : u_T := fun k => match k with
  | 0 => ("GlassTaxModel", "glasses", "I", false)
  | 1 => ("GlassTaxModel", "drinkers", "I", false)
  | 2 => ("GlassTaxModel", "measure", "[I", true)
  | 3 => ("GlassTaxModel", "vessel", "[I", true)
  | 4 => ("GlassTaxModel", "kind", "[I", true)
  | 5 => ("GlassTaxModel", "sits", "[I", true)
  | 6 => ("GlassTaxModel", "now", "[I", true)
  | 7 => ("GlassTaxModel", "readGlass", "[I", true)
  | 8 => ("GlassTaxModel", "readDrinker", "[I", true)
  | 9 => ("GlassTaxModel", "readSits", "[I", true)
  | 10 => ("GlassTaxModel", "readGlasses", "I", false)
  | 11 => ("GlassTaxModel", "readDrinkers", "I", false)
  | 12 => ("GlassTaxModel", "text", "[I", true)
  | 13 => ("GlassTaxModel", "length", "I", false)
  | 14 => ("GlassTaxModel", "at", "I", false)
  | 15 => ("GlassTaxModel", "faultAt", "I", false)
  | 16 => ("GlassTaxModel", "acts", "I", false)
  | 17 => ("GlassTaxModel", "next", "I", false)
  | 18 => ("GlassTaxModel", "row", "[I", true)
  | 19 => ("GlassTaxModel", "seen", "I", false)
  | 20 => ("GlassTaxModel", "seenOf", "[I", true)
  | 21 => ("GlassTaxModel", "seenWas", "[I", true)
  | 22 => ("GlassTaxModel", "seenIs", "[I", true)
  | 23 => ("GlassTaxModel", "seed", "J", false)
  | 24 => ("GlassTaxModel", "isKept", "[Z", true)
  | _ => ("GlassTaxModel", "kept", "[I", true)
def tyX11 : Nat → FieldType := fun k => match k with
  | 0 => .int
  | 1 => .int
  | 2 => .array .int
  | 3 => .array .int
  | 4 => .array .int
  | 5 => .array .int
  | 6 => .array .int
  | 7 => .array .int
  | 8 => .array .int
  | 9 => .array .int
  | 10 => .int
  | 11 => .int
  | 12 => .array .int
  | 13 => .int
  | 14 => .int
  | 15 => .int
  | 16 => .int
  | 17 => .int
  | 18 => .array .int
  | 19 => .int
  | 20 => .array .int
  | 21 => .array .int
  | 22 => .array .int
  | 23 => .long
  | 24 => .array .boolean
  | _ => .array .int
abbrev wsX110 : List Cond := u_ws RX11 TX11 26
theorem nmX11 : ∀ a, a < 26 → ∀ b, b < 26 → a ≠ b → (TX11 a).2.1 ≠ (TX11 b).2.1 := by decide +kernel
theorem tyX11_ok : ∀ k, k < 26 → parseFieldDescriptor (TX11 k).2.2.1 = some (tyX11 k) := by decide +kernel
abbrev cX11_init : ByteArray := prog_13_method_1_code
def yX11_init : MethodName := ⟨RX11, "<init>", "()V"⟩
abbrev cX11_in : ByteArray := prog_13_method_3_code
def yX11_in : MethodName := ⟨RX11, "in", "(JJJ)Z"⟩
abbrev cX11_has : ByteArray := prog_13_method_4_code
def yX11_has : MethodName := ⟨RX11, "has", "(II)Z"⟩
abbrev cX11_ones : ByteArray := prog_13_method_5_code
def yX11_ones : MethodName := ⟨RX11, "ones", "(I)I"⟩
abbrev cX11_write : ByteArray := prog_13_method_6_code
def yX11_write : MethodName := ⟨RX11, "write", "(I)I"⟩
abbrev cX11_wipe : ByteArray := prog_13_method_7_code
def yX11_wipe : MethodName := ⟨RX11, "wipe", "()I"⟩
abbrev cX11_figureOf : ByteArray := prog_13_method_8_code
def yX11_figureOf : MethodName := ⟨RX11, "figureOf", "(I)I"⟩
abbrev cX11_freeOf : ByteArray := prog_13_method_9_code
def yX11_freeOf : MethodName := ⟨RX11, "freeOf", "(I)I"⟩
abbrev cX11_firstsLeft : ByteArray := prog_13_method_10_code
def yX11_firstsLeft : MethodName := ⟨RX11, "firstsLeft", "()I"⟩
abbrev cX11_readText : ByteArray := prog_13_method_11_code
def yX11_readText : MethodName := ⟨RX11, "readText", "()I"⟩
abbrev cX11_readPart : ByteArray := prog_13_method_12_code
def yX11_readPart : MethodName := ⟨RX11, "readPart", "(I)V"⟩
abbrev cX11_fault : ByteArray := prog_13_method_13_code
def yX11_fault : MethodName := ⟨RX11, "fault", "()I"⟩
abbrev cX11_inn : ByteArray := prog_13_method_14_code
def yX11_inn : MethodName := ⟨RX11, "inn", "()I"⟩
abbrev cX11_isGlass : ByteArray := prog_13_method_15_code
def yX11_isGlass : MethodName := ⟨RX11, "isGlass", "(I)Z"⟩
abbrev cX11_isDrinker : ByteArray := prog_13_method_16_code
def yX11_isDrinker : MethodName := ⟨RX11, "isDrinker", "(I)Z"⟩
abbrev cX11_drinks : ByteArray := prog_13_method_17_code
def yX11_drinks : MethodName := ⟨RX11, "drinks", "(III)I"⟩
abbrev cX11_drinkOn : ByteArray := prog_13_method_18_code
def yX11_drinkOn : MethodName := ⟨RX11, "drinkOn", "(III)I"⟩
abbrev cX11_sitOn : ByteArray := prog_13_method_19_code
def yX11_sitOn : MethodName := ⟨RX11, "sitOn", "(II)V"⟩
abbrev cX11_eveningOn : ByteArray := prog_13_method_20_code
def yX11_eveningOn : MethodName := ⟨RX11, "eveningOn", "(II)V"⟩
abbrev cX11_taxOn : ByteArray := prog_13_method_21_code
def yX11_taxOn : MethodName := ⟨RX11, "taxOn", "(II)I"⟩
abbrev cX11_taxes : ByteArray := prog_13_method_22_code
def yX11_taxes : MethodName := ⟨RX11, "taxes", "(I)I"⟩
abbrev cX11_thirst : ByteArray := prog_13_method_23_code
def yX11_thirst : MethodName := ⟨RX11, "thirst", "(IZ)I"⟩
abbrev cX11_passOn : ByteArray := prog_13_method_24_code
def yX11_passOn : MethodName := ⟨RX11, "passOn", "(I)V"⟩
abbrev cX11_sittersAt : ByteArray := prog_13_method_25_code
def yX11_sittersAt : MethodName := ⟨RX11, "sittersAt", "(I)I"⟩
abbrev cX11_glass : ByteArray := prog_13_method_26_code
def yX11_glass : MethodName := ⟨RX11, "glass", "(II)I"⟩
abbrev cX11_firstOf : ByteArray := prog_13_method_27_code
def yX11_firstOf : MethodName := ⟨RX11, "firstOf", "(I)I"⟩
abbrev cX11_drinker : ByteArray := prog_13_method_28_code
def yX11_drinker : MethodName := ⟨RX11, "drinker", "(II)I"⟩
abbrev cX11_keepAct : ByteArray := prog_13_method_29_code
def yX11_keepAct : MethodName := ⟨RX11, "keepAct", "()V"⟩
abbrev cX11_roomIn : ByteArray := prog_13_method_30_code
def yX11_roomIn : MethodName := ⟨RX11, "roomIn", "(II)I"⟩
abbrev cX11_pourOn : ByteArray := prog_13_method_31_code
def yX11_pourOn : MethodName := ⟨RX11, "pourOn", "(III)I"⟩
abbrev cX11_pour : ByteArray := prog_13_method_32_code
def yX11_pour : MethodName := ⟨RX11, "pour", "(II)I"⟩
abbrev cX11_drink : ByteArray := prog_13_method_33_code
def yX11_drink : MethodName := ⟨RX11, "drink", "(II)I"⟩
abbrev cX11_canTip : ByteArray := prog_13_method_34_code
def yX11_canTip : MethodName := ⟨RX11, "canTip", "(III)Z"⟩
abbrev cX11_tipOn : ByteArray := prog_13_method_35_code
def yX11_tipOn : MethodName := ⟨RX11, "tipOn", "(III)I"⟩
abbrev cX11_tip : ByteArray := prog_13_method_36_code
def yX11_tip : MethodName := ⟨RX11, "tip", "(II)I"⟩
abbrev cX11_hour : ByteArray := prog_13_method_37_code
def yX11_hour : MethodName := ⟨RX11, "hour", "()I"⟩
abbrev cX11_undo : ByteArray := prog_13_method_38_code
def yX11_undo : MethodName := ⟨RX11, "undo", "()I"⟩
abbrev cX11_layTrial : ByteArray := prog_13_method_39_code
def yX11_layTrial : MethodName := ⟨RX11, "layTrial", "()V"⟩
abbrev cX11_left : ByteArray := prog_13_method_40_code
def yX11_left : MethodName := ⟨RX11, "left", "(I)I"⟩
abbrev cX11_evening : ByteArray := prog_13_method_41_code
def yX11_evening : MethodName := ⟨RX11, "evening", "(I)I"⟩
abbrev cX11_tenTo : ByteArray := prog_13_method_42_code
def yX11_tenTo : MethodName := ⟨RX11, "tenTo", "(I)I"⟩
abbrev cX11_figuresSum : ByteArray := prog_13_method_43_code
def yX11_figuresSum : MethodName := ⟨RX11, "figuresSum", "(I)I"⟩
abbrev cX11_taxesBy : ByteArray := prog_13_method_44_code
def yX11_taxesBy : MethodName := ⟨RX11, "taxesBy", "(I)I"⟩
abbrev cX11_pouring : ByteArray := prog_13_method_45_code
def yX11_pouring : MethodName := ⟨RX11, "pouring", "(IZ)I"⟩
abbrev cX11_wake : ByteArray := prog_13_method_46_code
def yX11_wake : MethodName := ⟨RX11, "wake", "()I"⟩
abbrev cX11_thirstBy : ByteArray := prog_13_method_47_code
def yX11_thirstBy : MethodName := ⟨RX11, "thirstBy", "(I)I"⟩
abbrev cX11_order : ByteArray := prog_13_method_48_code
def yX11_order : MethodName := ⟨RX11, "order", "(Z)I"⟩
abbrev cX11_hall : ByteArray := prog_13_method_49_code
def yX11_hall : MethodName := ⟨RX11, "hall", "(I)I"⟩
abbrev cX11_tryThing : ByteArray := prog_13_method_50_code
def yX11_tryThing : MethodName := ⟨RX11, "tryThing", "(III)Z"⟩
abbrev cX11_thousandTo : ByteArray := prog_13_method_51_code
def yX11_thousandTo : MethodName := ⟨RX11, "thousandTo", "(I)J"⟩
abbrev cX11_judge : ByteArray := prog_13_method_52_code
def yX11_judge : MethodName := ⟨RX11, "judge", "(IJ)I"⟩
abbrev cX11_see : ByteArray := prog_13_method_53_code
def yX11_see : MethodName := ⟨RX11, "see", "(III)I"⟩
abbrev cX11_unsee : ByteArray := prog_13_method_54_code
def yX11_unsee : MethodName := ⟨RX11, "unsee", "()I"⟩
abbrev cX11_thirsts : ByteArray := prog_13_method_55_code
def yX11_thirsts : MethodName := ⟨RX11, "thirsts", "(I)I"⟩
abbrev cX11_factorial : ByteArray := prog_13_method_56_code
def yX11_factorial : MethodName := ⟨RX11, "factorial", "(I)I"⟩
abbrev cX11_common : ByteArray := prog_13_method_57_code
def yX11_common : MethodName := ⟨RX11, "common", "(II)I"⟩
abbrev cX11_taxesOf : ByteArray := prog_13_method_58_code
def yX11_taxesOf : MethodName := ⟨RX11, "taxesOf", "(I)I"⟩
abbrev cX11_share : ByteArray := prog_13_method_59_code
def yX11_share : MethodName := ⟨RX11, "share", "(IZ)I"⟩
abbrev cX11_gain : ByteArray := prog_13_method_60_code
def yX11_gain : MethodName := ⟨RX11, "gain", "(IIIIZ)I"⟩
abbrev cX11_isRest : ByteArray := prog_13_method_61_code
def yX11_isRest : MethodName := ⟨RX11, "isRest", "(IIII)Z"⟩
abbrev cX11_rests : ByteArray := prog_13_method_62_code
def yX11_rests : MethodName := ⟨RX11, "rests", "(III)I"⟩
abbrev cX11_leak : ByteArray := prog_13_method_63_code
def yX11_leak : MethodName := ⟨RX11, "leak", "(IIZ)I"⟩
abbrev cX11_seed : ByteArray := prog_13_method_64_code
def yX11_seed : MethodName := ⟨RX11, "seed", "(J)J"⟩
abbrev cX11_nights : ByteArray := prog_13_method_65_code
def yX11_nights : MethodName := ⟨RX11, "nights", "(I)I"⟩
abbrev cX11_keep : ByteArray := prog_13_method_66_code
def yX11_keep : MethodName := ⟨RX11, "keep", "(I)I"⟩
abbrev cX11_again : ByteArray := prog_13_method_67_code
def yX11_again : MethodName := ⟨RX11, "again", "(I)I"⟩
abbrev cX11_count : ByteArray := prog_13_method_68_code
def yX11_count : MethodName := ⟨RX11, "count", "(I)I"⟩
def RJ6 : String := "java/lang/Integer"
def TJ6 : u_T := fun k => match k with
  | _ => ("", "", "", false)
def tyJ6 : Nat → FieldType := fun k => match k with
  | _ => .int
abbrev wsJ60 : List Cond := u_ws RJ6 TJ6 0
theorem nmJ6 : ∀ a, a < 0 → ∀ b, b < 0 → a ≠ b → (TJ6 a).2.1 ≠ (TJ6 b).2.1 := by decide +kernel
theorem tyJ6_ok : ∀ k, k < 0 → parseFieldDescriptor (TJ6 k).2.2.1 = some (tyJ6 k) := by decide +kernel
abbrev cJ6_bitCount_0f7a4 : ByteArray := prog_14_method_49_code
def yJ6_bitCount_0f7a4 : MethodName := ⟨RJ6, "bitCount", "(I)I"⟩
def RJ9 : String := "java/lang/Math"
def TJ9 : u_T := fun k => match k with
  | _ => ("", "", "", false)
def tyJ9 : Nat → FieldType := fun k => match k with
  | _ => .int
abbrev wsJ90 : List Cond := u_ws RJ9 TJ9 0
theorem nmJ9 : ∀ a, a < 0 → ∀ b, b < 0 → a ≠ b → (TJ9 a).2.1 ≠ (TJ9 b).2.1 := by decide +kernel
theorem tyJ9_ok : ∀ k, k < 0 → parseFieldDescriptor (TJ9 k).2.2.1 = some (tyJ9 k) := by decide +kernel
abbrev cJ9_abs_0f7a4 : ByteArray := prog_15_method_59_code
def yJ9_abs_0f7a4 : MethodName := ⟨RJ9, "abs", "(I)I"⟩
abbrev cJ9_max_7cf53 : ByteArray := prog_15_method_65_code
def yJ9_max_7cf53 : MethodName := ⟨RJ9, "max", "(II)I"⟩
abbrev cJ9_max_f86c9 : ByteArray := prog_15_method_66_code
def yJ9_max_f86c9 : MethodName := ⟨RJ9, "max", "(JJ)J"⟩
abbrev cJ9_min_7cf53 : ByteArray := prog_15_method_69_code
def yJ9_min_7cf53 : MethodName := ⟨RJ9, "min", "(II)I"⟩
def RJ10 : String := "java/lang/System"
def TJ10 : u_T := fun k => match k with
  | _ => ("", "", "", false)
def tyJ10 : Nat → FieldType := fun k => match k with
  | _ => .int
abbrev wsJ100 : List Cond := u_ws RJ10 TJ10 0
theorem nmJ10 : ∀ a, a < 0 → ∀ b, b < 0 → a ≠ b → (TJ10 a).2.1 ≠ (TJ10 b).2.1 := by decide +kernel
theorem tyJ10_ok : ∀ k, k < 0 → parseFieldDescriptor (TJ10 k).2.2.1 = some (tyJ10 k) := by decide +kernel
def RL : String := "GlassTaxLaw"
abbrev cL_law : ByteArray := code
def yL_law : MethodName := ⟨RL, "law", "([I)Z"⟩
abbrev vwCl : List vw_C := [(RX0, TX0, 3), (RX1, TX1, 3), (RX2, TX2, 8), (RX3, TX3, 2), (RX4, TX4, 6), (RX5, TX5, 3), (RX6, TX6, 7), (RX7, TX7, 4), (RX8, TX8, 2), (RX9, TX9, 5), (RX10, TX10, 15), (RX11, TX11, 26)]
end
section
theorem dJ6_bitCount_0f7a4_0 : decode cJ6_bitCount_0f7a4 0 = .ok (.iload_n 0, 1) := by decide +kernel
theorem dJ6_bitCount_0f7a4_1 : decode cJ6_bitCount_0f7a4 1 = .ok (.iload_n 0, 1) := by decide +kernel
theorem dJ6_bitCount_0f7a4_2 : decode cJ6_bitCount_0f7a4 2 = .ok (.iconst 1, 1) := by decide +kernel
theorem dJ6_bitCount_0f7a4_3 : decode cJ6_bitCount_0f7a4 3 = .ok (.iushr, 1) := by decide +kernel
theorem dJ6_bitCount_0f7a4_4 : decode cJ6_bitCount_0f7a4 4 = .ok (.ldc_w 265, 3) := by decide +kernel
theorem dJ6_bitCount_0f7a4_7 : decode cJ6_bitCount_0f7a4 7 = .ok (.iand, 1) := by decide +kernel
theorem dJ6_bitCount_0f7a4_8 : decode cJ6_bitCount_0f7a4 8 = .ok (.isub, 1) := by decide +kernel
theorem dJ6_bitCount_0f7a4_9 : decode cJ6_bitCount_0f7a4 9 = .ok (.istore_n 0, 1) := by decide +kernel
theorem dJ6_bitCount_0f7a4_10 : decode cJ6_bitCount_0f7a4 10 = .ok (.iload_n 0, 1) := by decide +kernel
theorem dJ6_bitCount_0f7a4_11 : decode cJ6_bitCount_0f7a4 11 = .ok (.ldc_w 266, 3) := by decide +kernel
theorem dJ6_bitCount_0f7a4_14 : decode cJ6_bitCount_0f7a4 14 = .ok (.iand, 1) := by decide +kernel
theorem dJ6_bitCount_0f7a4_15 : decode cJ6_bitCount_0f7a4 15 = .ok (.iload_n 0, 1) := by decide +kernel
theorem dJ6_bitCount_0f7a4_16 : decode cJ6_bitCount_0f7a4 16 = .ok (.iconst 2, 1) := by decide +kernel
theorem dJ6_bitCount_0f7a4_17 : decode cJ6_bitCount_0f7a4 17 = .ok (.iushr, 1) := by decide +kernel
theorem dJ6_bitCount_0f7a4_18 : decode cJ6_bitCount_0f7a4 18 = .ok (.ldc_w 266, 3) := by decide +kernel
theorem dJ6_bitCount_0f7a4_21 : decode cJ6_bitCount_0f7a4 21 = .ok (.iand, 1) := by decide +kernel
theorem dJ6_bitCount_0f7a4_22 : decode cJ6_bitCount_0f7a4 22 = .ok (.iadd, 1) := by decide +kernel
theorem dJ6_bitCount_0f7a4_23 : decode cJ6_bitCount_0f7a4 23 = .ok (.istore_n 0, 1) := by decide +kernel
theorem dJ6_bitCount_0f7a4_24 : decode cJ6_bitCount_0f7a4 24 = .ok (.iload_n 0, 1) := by decide +kernel
theorem dJ6_bitCount_0f7a4_25 : decode cJ6_bitCount_0f7a4 25 = .ok (.iload_n 0, 1) := by decide +kernel
theorem dJ6_bitCount_0f7a4_26 : decode cJ6_bitCount_0f7a4 26 = .ok (.iconst 4, 1) := by decide +kernel
theorem dJ6_bitCount_0f7a4_27 : decode cJ6_bitCount_0f7a4 27 = .ok (.iushr, 1) := by decide +kernel
theorem dJ6_bitCount_0f7a4_28 : decode cJ6_bitCount_0f7a4 28 = .ok (.iadd, 1) := by decide +kernel
theorem dJ6_bitCount_0f7a4_29 : decode cJ6_bitCount_0f7a4 29 = .ok (.ldc_w 267, 3) := by decide +kernel
theorem dJ6_bitCount_0f7a4_32 : decode cJ6_bitCount_0f7a4 32 = .ok (.iand, 1) := by decide +kernel
theorem dJ6_bitCount_0f7a4_33 : decode cJ6_bitCount_0f7a4 33 = .ok (.istore_n 0, 1) := by decide +kernel
theorem dJ6_bitCount_0f7a4_34 : decode cJ6_bitCount_0f7a4 34 = .ok (.iload_n 0, 1) := by decide +kernel
theorem dJ6_bitCount_0f7a4_35 : decode cJ6_bitCount_0f7a4 35 = .ok (.iload_n 0, 1) := by decide +kernel
theorem dJ6_bitCount_0f7a4_36 : decode cJ6_bitCount_0f7a4 36 = .ok (.bipush 8, 2) := by decide +kernel
theorem dJ6_bitCount_0f7a4_38 : decode cJ6_bitCount_0f7a4 38 = .ok (.iushr, 1) := by decide +kernel
theorem dJ6_bitCount_0f7a4_39 : decode cJ6_bitCount_0f7a4 39 = .ok (.iadd, 1) := by decide +kernel
theorem dJ6_bitCount_0f7a4_40 : decode cJ6_bitCount_0f7a4 40 = .ok (.istore_n 0, 1) := by decide +kernel
theorem dJ6_bitCount_0f7a4_41 : decode cJ6_bitCount_0f7a4 41 = .ok (.iload_n 0, 1) := by decide +kernel
theorem dJ6_bitCount_0f7a4_42 : decode cJ6_bitCount_0f7a4 42 = .ok (.iload_n 0, 1) := by decide +kernel
theorem dJ6_bitCount_0f7a4_43 : decode cJ6_bitCount_0f7a4 43 = .ok (.bipush 16, 2) := by decide +kernel
theorem dJ6_bitCount_0f7a4_45 : decode cJ6_bitCount_0f7a4 45 = .ok (.iushr, 1) := by decide +kernel
theorem dJ6_bitCount_0f7a4_46 : decode cJ6_bitCount_0f7a4 46 = .ok (.iadd, 1) := by decide +kernel
theorem dJ6_bitCount_0f7a4_47 : decode cJ6_bitCount_0f7a4 47 = .ok (.istore_n 0, 1) := by decide +kernel
theorem dJ6_bitCount_0f7a4_48 : decode cJ6_bitCount_0f7a4 48 = .ok (.iload_n 0, 1) := by decide +kernel
theorem dJ6_bitCount_0f7a4_49 : decode cJ6_bitCount_0f7a4 49 = .ok (.bipush 63, 2) := by decide +kernel
theorem dJ6_bitCount_0f7a4_51 : decode cJ6_bitCount_0f7a4 51 = .ok (.iand, 1) := by decide +kernel
theorem dJ6_bitCount_0f7a4_52 : decode cJ6_bitCount_0f7a4 52 = .ok (.ireturn, 1) := by decide +kernel
theorem dJ9_abs_0f7a4_0 : decode cJ9_abs_0f7a4 0 = .ok (.iload_n 0, 1) := by decide +kernel
theorem dJ9_abs_0f7a4_1 : decode cJ9_abs_0f7a4 1 = .ok (.ifCond .ge 8, 3) := by decide +kernel
theorem dJ9_abs_0f7a4_4 : decode cJ9_abs_0f7a4 4 = .ok (.iload_n 0, 1) := by decide +kernel
theorem dJ9_abs_0f7a4_5 : decode cJ9_abs_0f7a4 5 = .ok (.ineg, 1) := by decide +kernel
theorem dJ9_abs_0f7a4_6 : decode cJ9_abs_0f7a4 6 = .ok (.goto 4, 3) := by decide +kernel
theorem dJ9_abs_0f7a4_9 : decode cJ9_abs_0f7a4 9 = .ok (.iload_n 0, 1) := by decide +kernel
theorem dJ9_abs_0f7a4_10 : decode cJ9_abs_0f7a4 10 = .ok (.ireturn, 1) := by decide +kernel
theorem dJ9_max_7cf53_0 : decode cJ9_max_7cf53 0 = .ok (.iload_n 0, 1) := by decide +kernel
theorem dJ9_max_7cf53_1 : decode cJ9_max_7cf53 1 = .ok (.iload_n 1, 1) := by decide +kernel
theorem dJ9_max_7cf53_2 : decode cJ9_max_7cf53 2 = .ok (.if_icmp .lt 7, 3) := by decide +kernel
theorem dJ9_max_7cf53_5 : decode cJ9_max_7cf53 5 = .ok (.iload_n 0, 1) := by decide +kernel
theorem dJ9_max_7cf53_6 : decode cJ9_max_7cf53 6 = .ok (.goto 4, 3) := by decide +kernel
theorem dJ9_max_7cf53_9 : decode cJ9_max_7cf53 9 = .ok (.iload_n 1, 1) := by decide +kernel
theorem dJ9_max_7cf53_10 : decode cJ9_max_7cf53 10 = .ok (.ireturn, 1) := by decide +kernel
theorem dJ9_max_f86c9_0 : decode cJ9_max_f86c9 0 = .ok (.lload_n 0, 1) := by decide +kernel
theorem dJ9_max_f86c9_1 : decode cJ9_max_f86c9 1 = .ok (.lload_n 2, 1) := by decide +kernel
theorem dJ9_max_f86c9_2 : decode cJ9_max_f86c9 2 = .ok (.lcmp, 1) := by decide +kernel
theorem dJ9_max_f86c9_3 : decode cJ9_max_f86c9 3 = .ok (.ifCond .lt 7, 3) := by decide +kernel
theorem dJ9_max_f86c9_6 : decode cJ9_max_f86c9 6 = .ok (.lload_n 0, 1) := by decide +kernel
theorem dJ9_max_f86c9_7 : decode cJ9_max_f86c9 7 = .ok (.goto 4, 3) := by decide +kernel
theorem dJ9_max_f86c9_10 : decode cJ9_max_f86c9 10 = .ok (.lload_n 2, 1) := by decide +kernel
theorem dJ9_max_f86c9_11 : decode cJ9_max_f86c9 11 = .ok (.lreturn, 1) := by decide +kernel
theorem dJ9_min_7cf53_0 : decode cJ9_min_7cf53 0 = .ok (.iload_n 0, 1) := by decide +kernel
theorem dJ9_min_7cf53_1 : decode cJ9_min_7cf53 1 = .ok (.iload_n 1, 1) := by decide +kernel
theorem dJ9_min_7cf53_2 : decode cJ9_min_7cf53 2 = .ok (.if_icmp .gt 7, 3) := by decide +kernel
theorem dJ9_min_7cf53_5 : decode cJ9_min_7cf53 5 = .ok (.iload_n 0, 1) := by decide +kernel
theorem dJ9_min_7cf53_6 : decode cJ9_min_7cf53 6 = .ok (.goto 4, 3) := by decide +kernel
theorem dJ9_min_7cf53_9 : decode cJ9_min_7cf53 9 = .ok (.iload_n 1, 1) := by decide +kernel
theorem dJ9_min_7cf53_10 : decode cJ9_min_7cf53 10 = .ok (.ireturn, 1) := by decide +kernel
theorem dX0_init_0 : decode cX0_init 0 = .ok (.aload_n 0, 1) := by decide +kernel
theorem dX0_init_1 : decode cX0_init 1 = .ok (.invokespecial 3, 3) := by decide +kernel
theorem dX0_init_4 : decode cX0_init 4 = .ok (.aload_n 0, 1) := by decide +kernel
theorem dX0_init_5 : decode cX0_init 5 = .ok (.new 9, 3) := by decide +kernel
theorem dX0_init_8 : decode cX0_init 8 = .ok (.dup, 1) := by decide +kernel
theorem dX0_init_9 : decode cX0_init 9 = .ok (.bipush 14, 2) := by decide +kernel
theorem dX0_init_11 : decode cX0_init 11 = .ok (.invokespecial 11, 3) := by decide +kernel
theorem dX0_init_14 : decode cX0_init 14 = .ok (.putfield 14, 3) := by decide +kernel
theorem dX0_init_17 : decode cX0_init 17 = .ok (.return_, 1) := by decide +kernel
theorem dX0_push_0 : decode cX0_push 0 = .ok (.aload_n 0, 1) := by decide +kernel
theorem dX0_push_1 : decode cX0_push 1 = .ok (.getfield 14, 3) := by decide +kernel
theorem dX0_push_4 : decode cX0_push 4 = .ok (.aload_n 0, 1) := by decide +kernel
theorem dX0_push_5 : decode cX0_push 5 = .ok (.getfield 20, 3) := by decide +kernel
theorem dX0_push_8 : decode cX0_push 8 = .ok (.aload_n 1, 1) := by decide +kernel
theorem dX0_push_9 : decode cX0_push 9 = .ok (.invokevirtual 24, 3) := by decide +kernel
theorem dX0_push_12 : decode cX0_push 12 = .ok (.aload_n 0, 1) := by decide +kernel
theorem dX0_push_13 : decode cX0_push 13 = .ok (.aload_n 0, 1) := by decide +kernel
theorem dX0_push_14 : decode cX0_push 14 = .ok (.getfield 20, 3) := by decide +kernel
theorem dX0_push_17 : decode cX0_push 17 = .ok (.iconst 1, 1) := by decide +kernel
theorem dX0_push_18 : decode cX0_push 18 = .ok (.iadd, 1) := by decide +kernel
theorem dX0_push_19 : decode cX0_push 19 = .ok (.bipush 14, 2) := by decide +kernel
theorem dX0_push_21 : decode cX0_push 21 = .ok (.irem, 1) := by decide +kernel
theorem dX0_push_22 : decode cX0_push 22 = .ok (.putfield 20, 3) := by decide +kernel
theorem dX0_push_25 : decode cX0_push 25 = .ok (.aload_n 0, 1) := by decide +kernel
theorem dX0_push_26 : decode cX0_push 26 = .ok (.bipush 14, 2) := by decide +kernel
theorem dX0_push_28 : decode cX0_push 28 = .ok (.aload_n 0, 1) := by decide +kernel
theorem dX0_push_29 : decode cX0_push 29 = .ok (.getfield 28, 3) := by decide +kernel
theorem dX0_push_32 : decode cX0_push 32 = .ok (.iconst 1, 1) := by decide +kernel
theorem dX0_push_33 : decode cX0_push 33 = .ok (.iadd, 1) := by decide +kernel
theorem dX0_push_34 : decode cX0_push 34 = .ok (.invokestatic 31, 3) := by decide +kernel
theorem dX0_push_37 : decode cX0_push 37 = .ok (.putfield 28, 3) := by decide +kernel
theorem dX0_push_40 : decode cX0_push 40 = .ok (.return_, 1) := by decide +kernel
theorem dX0_pop_0 : decode cX0_pop 0 = .ok (.aload_n 0, 1) := by decide +kernel
theorem dX0_pop_1 : decode cX0_pop 1 = .ok (.getfield 28, 3) := by decide +kernel
theorem dX0_pop_4 : decode cX0_pop 4 = .ok (.ifCond .le 41, 3) := by decide +kernel
theorem dX0_pop_7 : decode cX0_pop 7 = .ok (.aload_n 0, 1) := by decide +kernel
theorem dX0_pop_8 : decode cX0_pop 8 = .ok (.dup, 1) := by decide +kernel
theorem dX0_pop_9 : decode cX0_pop 9 = .ok (.getfield 28, 3) := by decide +kernel
theorem dX0_pop_12 : decode cX0_pop 12 = .ok (.iconst 1, 1) := by decide +kernel
theorem dX0_pop_13 : decode cX0_pop 13 = .ok (.isub, 1) := by decide +kernel
theorem dX0_pop_14 : decode cX0_pop 14 = .ok (.putfield 28, 3) := by decide +kernel
theorem dX0_pop_17 : decode cX0_pop 17 = .ok (.aload_n 0, 1) := by decide +kernel
theorem dX0_pop_18 : decode cX0_pop 18 = .ok (.aload_n 0, 1) := by decide +kernel
theorem dX0_pop_19 : decode cX0_pop 19 = .ok (.getfield 20, 3) := by decide +kernel
theorem dX0_pop_22 : decode cX0_pop 22 = .ok (.bipush 14, 2) := by decide +kernel
theorem dX0_pop_24 : decode cX0_pop 24 = .ok (.iadd, 1) := by decide +kernel
theorem dX0_pop_25 : decode cX0_pop 25 = .ok (.iconst 1, 1) := by decide +kernel
theorem dX0_pop_26 : decode cX0_pop 26 = .ok (.isub, 1) := by decide +kernel
theorem dX0_pop_27 : decode cX0_pop 27 = .ok (.bipush 14, 2) := by decide +kernel
theorem dX0_pop_29 : decode cX0_pop 29 = .ok (.irem, 1) := by decide +kernel
theorem dX0_pop_30 : decode cX0_pop 30 = .ok (.putfield 20, 3) := by decide +kernel
theorem dX0_pop_33 : decode cX0_pop 33 = .ok (.aload_n 0, 1) := by decide +kernel
theorem dX0_pop_34 : decode cX0_pop 34 = .ok (.getfield 14, 3) := by decide +kernel
theorem dX0_pop_37 : decode cX0_pop 37 = .ok (.aload_n 0, 1) := by decide +kernel
theorem dX0_pop_38 : decode cX0_pop 38 = .ok (.getfield 20, 3) := by decide +kernel
theorem dX0_pop_41 : decode cX0_pop 41 = .ok (.aload_n 1, 1) := by decide +kernel
theorem dX0_pop_42 : decode cX0_pop 42 = .ok (.invokevirtual 37, 3) := by decide +kernel
theorem dX0_pop_45 : decode cX0_pop 45 = .ok (.return_, 1) := by decide +kernel
theorem dX0_forgetAll_0 : decode cX0_forgetAll 0 = .ok (.aload_n 0, 1) := by decide +kernel
theorem dX0_forgetAll_1 : decode cX0_forgetAll 1 = .ok (.iconst 0, 1) := by decide +kernel
theorem dX0_forgetAll_2 : decode cX0_forgetAll 2 = .ok (.putfield 28, 3) := by decide +kernel
theorem dX0_forgetAll_5 : decode cX0_forgetAll 5 = .ok (.return_, 1) := by decide +kernel
theorem dX1_init_0 : decode cX1_init 0 = .ok (.aload_n 0, 1) := by decide +kernel
theorem dX1_init_1 : decode cX1_init 1 = .ok (.invokespecial 3, 3) := by decide +kernel
theorem dX1_init_4 : decode cX1_init 4 = .ok (.aload_n 0, 1) := by decide +kernel
theorem dX1_init_5 : decode cX1_init 5 = .ok (.aload_n 1, 1) := by decide +kernel
theorem dX1_init_6 : decode cX1_init 6 = .ok (.putfield 9, 3) := by decide +kernel
theorem dX1_init_9 : decode cX1_init 9 = .ok (.aload_n 0, 1) := by decide +kernel
theorem dX1_init_10 : decode cX1_init 10 = .ok (.aload_n 2, 1) := by decide +kernel
theorem dX1_init_11 : decode cX1_init 11 = .ok (.putfield 15, 3) := by decide +kernel
theorem dX1_init_14 : decode cX1_init 14 = .ok (.aload_n 0, 1) := by decide +kernel
theorem dX1_init_15 : decode cX1_init 15 = .ok (.aload_n 3, 1) := by decide +kernel
theorem dX1_init_16 : decode cX1_init 16 = .ok (.putfield 19, 3) := by decide +kernel
theorem dX1_init_19 : decode cX1_init 19 = .ok (.return_, 1) := by decide +kernel
theorem dX1_shareOf_0 : decode cX1_shareOf 0 = .ok (.iconst 0, 1) := by decide +kernel
theorem dX1_shareOf_1 : decode cX1_shareOf 1 = .ok (.istore_n 3, 1) := by decide +kernel
theorem dX1_shareOf_2 : decode cX1_shareOf 2 = .ok (.iconst 0, 1) := by decide +kernel
theorem dX1_shareOf_3 : decode cX1_shareOf 3 = .ok (.istore 4, 2) := by decide +kernel
theorem dX1_shareOf_5 : decode cX1_shareOf 5 = .ok (.iload 4, 2) := by decide +kernel
theorem dX1_shareOf_7 : decode cX1_shareOf 7 = .ok (.iconst 1, 1) := by decide +kernel
theorem dX1_shareOf_8 : decode cX1_shareOf 8 = .ok (.aload_n 0, 1) := by decide +kernel
theorem dX1_shareOf_9 : decode cX1_shareOf 9 = .ok (.getfield 9, 3) := by decide +kernel
theorem dX1_shareOf_12 : decode cX1_shareOf 12 = .ok (.getfield 22, 3) := by decide +kernel
theorem dX1_shareOf_15 : decode cX1_shareOf 15 = .ok (.ishl, 1) := by decide +kernel
theorem dX1_shareOf_16 : decode cX1_shareOf 16 = .ok (.if_icmp .ge 52, 3) := by decide +kernel
theorem dX1_shareOf_19 : decode cX1_shareOf 19 = .ok (.iload 4, 2) := by decide +kernel
theorem dX1_shareOf_21 : decode cX1_shareOf 21 = .ok (.iload_n 1, 1) := by decide +kernel
theorem dX1_shareOf_22 : decode cX1_shareOf 22 = .ok (.invokestatic 28, 3) := by decide +kernel
theorem dX1_shareOf_25 : decode cX1_shareOf 25 = .ok (.ifCond .ne 37, 3) := by decide +kernel
theorem dX1_shareOf_28 : decode cX1_shareOf 28 = .ok (.aload_n 0, 1) := by decide +kernel
theorem dX1_shareOf_29 : decode cX1_shareOf 29 = .ok (.iload 4, 2) := by decide +kernel
theorem dX1_shareOf_31 : decode cX1_shareOf 31 = .ok (.iconst 1, 1) := by decide +kernel
theorem dX1_shareOf_32 : decode cX1_shareOf 32 = .ok (.iload_n 1, 1) := by decide +kernel
theorem dX1_shareOf_33 : decode cX1_shareOf 33 = .ok (.ishl, 1) := by decide +kernel
theorem dX1_shareOf_34 : decode cX1_shareOf 34 = .ok (.ior, 1) := by decide +kernel
theorem dX1_shareOf_35 : decode cX1_shareOf 35 = .ok (.invokevirtual 32, 3) := by decide +kernel
theorem dX1_shareOf_38 : decode cX1_shareOf 38 = .ok (.aload_n 0, 1) := by decide +kernel
theorem dX1_shareOf_39 : decode cX1_shareOf 39 = .ok (.iload 4, 2) := by decide +kernel
theorem dX1_shareOf_41 : decode cX1_shareOf 41 = .ok (.invokevirtual 32, 3) := by decide +kernel
theorem dX1_shareOf_44 : decode cX1_shareOf 44 = .ok (.isub, 1) := by decide +kernel
theorem dX1_shareOf_45 : decode cX1_shareOf 45 = .ok (.istore 5, 2) := by decide +kernel
theorem dX1_shareOf_47 : decode cX1_shareOf 47 = .ok (.iload_n 3, 1) := by decide +kernel
theorem dX1_shareOf_48 : decode cX1_shareOf 48 = .ok (.iload 5, 2) := by decide +kernel
theorem dX1_shareOf_50 : decode cX1_shareOf 50 = .ok (.aload_n 0, 1) := by decide +kernel
theorem dX1_shareOf_51 : decode cX1_shareOf 51 = .ok (.iload 4, 2) := by decide +kernel
theorem dX1_shareOf_53 : decode cX1_shareOf 53 = .ok (.invokestatic 36, 3) := by decide +kernel
theorem dX1_shareOf_56 : decode cX1_shareOf 56 = .ok (.invokevirtual 41, 3) := by decide +kernel
theorem dX1_shareOf_59 : decode cX1_shareOf 59 = .ok (.imul, 1) := by decide +kernel
theorem dX1_shareOf_60 : decode cX1_shareOf 60 = .ok (.iadd, 1) := by decide +kernel
theorem dX1_shareOf_61 : decode cX1_shareOf 61 = .ok (.istore_n 3, 1) := by decide +kernel
theorem dX1_shareOf_62 : decode cX1_shareOf 62 = .ok (.iinc 4 1, 3) := by decide +kernel
theorem dX1_shareOf_65 : decode cX1_shareOf 65 = .ok (.goto (-60), 3) := by decide +kernel
theorem dX1_shareOf_68 : decode cX1_shareOf 68 = .ok (.iload_n 3, 1) := by decide +kernel
theorem dX1_shareOf_69 : decode cX1_shareOf 69 = .ok (.aload_n 0, 1) := by decide +kernel
theorem dX1_shareOf_70 : decode cX1_shareOf 70 = .ok (.getfield 9, 3) := by decide +kernel
theorem dX1_shareOf_73 : decode cX1_shareOf 73 = .ok (.getfield 22, 3) := by decide +kernel
theorem dX1_shareOf_76 : decode cX1_shareOf 76 = .ok (.invokestatic 44, 3) := by decide +kernel
theorem dX1_shareOf_79 : decode cX1_shareOf 79 = .ok (.iload_n 2, 1) := by decide +kernel
theorem dX1_shareOf_80 : decode cX1_shareOf 80 = .ok (.invokestatic 47, 3) := by decide +kernel
theorem dX1_shareOf_83 : decode cX1_shareOf 83 = .ok (.ireturn, 1) := by decide +kernel
theorem dX1_ordersWith_0 : decode cX1_ordersWith 0 = .ok (.iload_n 1, 1) := by decide +kernel
theorem dX1_ordersWith_1 : decode cX1_ordersWith 1 = .ok (.invokestatic 44, 3) := by decide +kernel
theorem dX1_ordersWith_4 : decode cX1_ordersWith 4 = .ok (.aload_n 0, 1) := by decide +kernel
theorem dX1_ordersWith_5 : decode cX1_ordersWith 5 = .ok (.getfield 9, 3) := by decide +kernel
theorem dX1_ordersWith_8 : decode cX1_ordersWith 8 = .ok (.getfield 22, 3) := by decide +kernel
theorem dX1_ordersWith_11 : decode cX1_ordersWith 11 = .ok (.iload_n 1, 1) := by decide +kernel
theorem dX1_ordersWith_12 : decode cX1_ordersWith 12 = .ok (.isub, 1) := by decide +kernel
theorem dX1_ordersWith_13 : decode cX1_ordersWith 13 = .ok (.iconst 1, 1) := by decide +kernel
theorem dX1_ordersWith_14 : decode cX1_ordersWith 14 = .ok (.isub, 1) := by decide +kernel
theorem dX1_ordersWith_15 : decode cX1_ordersWith 15 = .ok (.invokestatic 44, 3) := by decide +kernel
theorem dX1_ordersWith_18 : decode cX1_ordersWith 18 = .ok (.imul, 1) := by decide +kernel
theorem dX1_ordersWith_19 : decode cX1_ordersWith 19 = .ok (.ireturn, 1) := by decide +kernel
theorem dX1_orders_0 : decode cX1_orders 0 = .ok (.iload_n 0, 1) := by decide +kernel
theorem dX1_orders_1 : decode cX1_orders 1 = .ok (.ifCond .lt 19, 3) := by decide +kernel
theorem dX1_orders_4 : decode cX1_orders 4 = .ok (.iload_n 0, 1) := by decide +kernel
theorem dX1_orders_5 : decode cX1_orders 5 = .ok (.getstatic 51, 3) := by decide +kernel
theorem dX1_orders_8 : decode cX1_orders 8 = .ok (.arraylength, 1) := by decide +kernel
theorem dX1_orders_9 : decode cX1_orders 9 = .ok (.if_icmp .ge 11, 3) := by decide +kernel
theorem dX1_orders_12 : decode cX1_orders 12 = .ok (.getstatic 51, 3) := by decide +kernel
theorem dX1_orders_15 : decode cX1_orders 15 = .ok (.iload_n 0, 1) := by decide +kernel
theorem dX1_orders_16 : decode cX1_orders 16 = .ok (.iaload, 1) := by decide +kernel
theorem dX1_orders_17 : decode cX1_orders 17 = .ok (.goto 4, 3) := by decide +kernel
theorem dX1_orders_20 : decode cX1_orders 20 = .ok (.iconst 1, 1) := by decide +kernel
theorem dX1_orders_21 : decode cX1_orders 21 = .ok (.ireturn, 1) := by decide +kernel
theorem dX1_taxesOf_0 : decode cX1_taxesOf 0 = .ok (.aload_n 0, 1) := by decide +kernel
theorem dX1_taxesOf_1 : decode cX1_taxesOf 1 = .ok (.getfield 19, 3) := by decide +kernel
theorem dX1_taxesOf_4 : decode cX1_taxesOf 4 = .ok (.aload_n 0, 1) := by decide +kernel
theorem dX1_taxesOf_5 : decode cX1_taxesOf 5 = .ok (.getfield 15, 3) := by decide +kernel
theorem dX1_taxesOf_8 : decode cX1_taxesOf 8 = .ok (.invokevirtual 55, 3) := by decide +kernel
theorem dX1_taxesOf_11 : decode cX1_taxesOf 11 = .ok (.aload_n 0, 1) := by decide +kernel
theorem dX1_taxesOf_12 : decode cX1_taxesOf 12 = .ok (.getfield 19, 3) := by decide +kernel
theorem dX1_taxesOf_15 : decode cX1_taxesOf 15 = .ok (.iload_n 1, 1) := by decide +kernel
theorem dX1_taxesOf_16 : decode cX1_taxesOf 16 = .ok (.invokevirtual 61, 3) := by decide +kernel
theorem dX1_taxesOf_19 : decode cX1_taxesOf 19 = .ok (.aload_n 0, 1) := by decide +kernel
theorem dX1_taxesOf_20 : decode cX1_taxesOf 20 = .ok (.getfield 19, 3) := by decide +kernel
theorem dX1_taxesOf_23 : decode cX1_taxesOf 23 = .ok (.invokevirtual 65, 3) := by decide +kernel
theorem dX1_taxesOf_26 : decode cX1_taxesOf 26 = .ok (.ireturn, 1) := by decide +kernel
theorem dX1_leakOf_0 : decode cX1_leakOf 0 = .ok (.iconst 0, 1) := by decide +kernel
theorem dX1_leakOf_1 : decode cX1_leakOf 1 = .ok (.istore 4, 2) := by decide +kernel
theorem dX1_leakOf_3 : decode cX1_leakOf 3 = .ok (.iconst 1, 1) := by decide +kernel
theorem dX1_leakOf_4 : decode cX1_leakOf 4 = .ok (.istore 5, 2) := by decide +kernel
theorem dX1_leakOf_6 : decode cX1_leakOf 6 = .ok (.iconst 0, 1) := by decide +kernel
theorem dX1_leakOf_7 : decode cX1_leakOf 7 = .ok (.istore 6, 2) := by decide +kernel
theorem dX1_leakOf_9 : decode cX1_leakOf 9 = .ok (.iconst 0, 1) := by decide +kernel
theorem dX1_leakOf_10 : decode cX1_leakOf 10 = .ok (.istore 7, 2) := by decide +kernel
theorem dX1_leakOf_12 : decode cX1_leakOf 12 = .ok (.iload 7, 2) := by decide +kernel
theorem dX1_leakOf_14 : decode cX1_leakOf 14 = .ok (.iconst 5, 1) := by decide +kernel
theorem dX1_leakOf_15 : decode cX1_leakOf 15 = .ok (.if_icmp .ge 38, 3) := by decide +kernel
theorem dX1_leakOf_18 : decode cX1_leakOf 18 = .ok (.aload_n 0, 1) := by decide +kernel
theorem dX1_leakOf_19 : decode cX1_leakOf 19 = .ok (.getfield 15, 3) := by decide +kernel
theorem dX1_leakOf_22 : decode cX1_leakOf 22 = .ok (.getfield 69, 3) := by decide +kernel
theorem dX1_leakOf_25 : decode cX1_leakOf 25 = .ok (.iload 7, 2) := by decide +kernel
theorem dX1_leakOf_27 : decode cX1_leakOf 27 = .ok (.iaload, 1) := by decide +kernel
theorem dX1_leakOf_28 : decode cX1_leakOf 28 = .ok (.ifCond .le 19, 3) := by decide +kernel
theorem dX1_leakOf_31 : decode cX1_leakOf 31 = .ok (.iload 6, 2) := by decide +kernel
theorem dX1_leakOf_33 : decode cX1_leakOf 33 = .ok (.iconst 1, 1) := by decide +kernel
theorem dX1_leakOf_34 : decode cX1_leakOf 34 = .ok (.iload 7, 2) := by decide +kernel
theorem dX1_leakOf_36 : decode cX1_leakOf 36 = .ok (.ishl, 1) := by decide +kernel
theorem dX1_leakOf_37 : decode cX1_leakOf 37 = .ok (.ior, 1) := by decide +kernel
theorem dX1_leakOf_38 : decode cX1_leakOf 38 = .ok (.istore 6, 2) := by decide +kernel
theorem dX1_leakOf_40 : decode cX1_leakOf 40 = .ok (.iload 5, 2) := by decide +kernel
theorem dX1_leakOf_42 : decode cX1_leakOf 42 = .ok (.bipush 10, 2) := by decide +kernel
theorem dX1_leakOf_44 : decode cX1_leakOf 44 = .ok (.imul, 1) := by decide +kernel
theorem dX1_leakOf_45 : decode cX1_leakOf 45 = .ok (.istore 5, 2) := by decide +kernel
theorem dX1_leakOf_47 : decode cX1_leakOf 47 = .ok (.iinc 7 1, 3) := by decide +kernel
theorem dX1_leakOf_50 : decode cX1_leakOf 50 = .ok (.goto (-38), 3) := by decide +kernel
theorem dX1_leakOf_53 : decode cX1_leakOf 53 = .ok (.iconst 0, 1) := by decide +kernel
theorem dX1_leakOf_54 : decode cX1_leakOf 54 = .ok (.istore 7, 2) := by decide +kernel
theorem dX1_leakOf_56 : decode cX1_leakOf 56 = .ok (.iload 7, 2) := by decide +kernel
theorem dX1_leakOf_58 : decode cX1_leakOf 58 = .ok (.bipush 32, 2) := by decide +kernel
theorem dX1_leakOf_60 : decode cX1_leakOf 60 = .ok (.if_icmp .ge 42, 3) := by decide +kernel
theorem dX1_leakOf_63 : decode cX1_leakOf 63 = .ok (.iload 7, 2) := by decide +kernel
theorem dX1_leakOf_65 : decode cX1_leakOf 65 = .ok (.iload 6, 2) := by decide +kernel
theorem dX1_leakOf_67 : decode cX1_leakOf 67 = .ok (.iconst (-1), 1) := by decide +kernel
theorem dX1_leakOf_68 : decode cX1_leakOf 68 = .ok (.ixor, 1) := by decide +kernel
theorem dX1_leakOf_69 : decode cX1_leakOf 69 = .ok (.iand, 1) := by decide +kernel
theorem dX1_leakOf_70 : decode cX1_leakOf 70 = .ok (.ifCond .ne 26, 3) := by decide +kernel
theorem dX1_leakOf_73 : decode cX1_leakOf 73 = .ok (.aload_n 0, 1) := by decide +kernel
theorem dX1_leakOf_74 : decode cX1_leakOf 74 = .ok (.iload 7, 2) := by decide +kernel
theorem dX1_leakOf_76 : decode cX1_leakOf 76 = .ok (.invokevirtual 72, 3) := by decide +kernel
theorem dX1_leakOf_79 : decode cX1_leakOf 79 = .ok (.iload_n 1, 1) := by decide +kernel
theorem dX1_leakOf_80 : decode cX1_leakOf 80 = .ok (.if_icmp .lt 16, 3) := by decide +kernel
theorem dX1_leakOf_83 : decode cX1_leakOf 83 = .ok (.iload 4, 2) := by decide +kernel
theorem dX1_leakOf_85 : decode cX1_leakOf 85 = .ok (.iload 7, 2) := by decide +kernel
theorem dX1_leakOf_87 : decode cX1_leakOf 87 = .ok (.iload 6, 2) := by decide +kernel
theorem dX1_leakOf_89 : decode cX1_leakOf 89 = .ok (.iload_n 2, 1) := by decide +kernel
theorem dX1_leakOf_90 : decode cX1_leakOf 90 = .ok (.invokestatic 75, 3) := by decide +kernel
theorem dX1_leakOf_93 : decode cX1_leakOf 93 = .ok (.iadd, 1) := by decide +kernel
theorem dX1_leakOf_94 : decode cX1_leakOf 94 = .ok (.istore 4, 2) := by decide +kernel
theorem dX1_leakOf_96 : decode cX1_leakOf 96 = .ok (.iinc 7 1, 3) := by decide +kernel
theorem dX1_leakOf_99 : decode cX1_leakOf 99 = .ok (.goto (-43), 3) := by decide +kernel
theorem dX1_leakOf_102 : decode cX1_leakOf 102 = .ok (.iload 4, 2) := by decide +kernel
theorem dX1_leakOf_104 : decode cX1_leakOf 104 = .ok (.iload 5, 2) := by decide +kernel
theorem dX1_leakOf_106 : decode cX1_leakOf 106 = .ok (.iload_n 3, 1) := by decide +kernel
theorem dX1_leakOf_107 : decode cX1_leakOf 107 = .ok (.invokestatic 47, 3) := by decide +kernel
theorem dX1_leakOf_110 : decode cX1_leakOf 110 = .ok (.ireturn, 1) := by decide +kernel
theorem dX1_taxesByLeaks_0 : decode cX1_taxesByLeaks 0 = .ok (.aload_n 0, 1) := by decide +kernel
theorem dX1_taxesByLeaks_1 : decode cX1_taxesByLeaks 1 = .ok (.getfield 19, 3) := by decide +kernel
theorem dX1_taxesByLeaks_4 : decode cX1_taxesByLeaks 4 = .ok (.aload_n 0, 1) := by decide +kernel
theorem dX1_taxesByLeaks_5 : decode cX1_taxesByLeaks 5 = .ok (.getfield 15, 3) := by decide +kernel
theorem dX1_taxesByLeaks_8 : decode cX1_taxesByLeaks 8 = .ok (.invokevirtual 55, 3) := by decide +kernel
theorem dX1_taxesByLeaks_11 : decode cX1_taxesByLeaks 11 = .ok (.iconst 0, 1) := by decide +kernel
theorem dX1_taxesByLeaks_12 : decode cX1_taxesByLeaks 12 = .ok (.istore_n 2, 1) := by decide +kernel
theorem dX1_taxesByLeaks_13 : decode cX1_taxesByLeaks 13 = .ok (.iload_n 2, 1) := by decide +kernel
theorem dX1_taxesByLeaks_14 : decode cX1_taxesByLeaks 14 = .ok (.iconst 5, 1) := by decide +kernel
theorem dX1_taxesByLeaks_15 : decode cX1_taxesByLeaks 15 = .ok (.if_icmp .ge 30, 3) := by decide +kernel
theorem dX1_taxesByLeaks_18 : decode cX1_taxesByLeaks 18 = .ok (.iload_n 1, 1) := by decide +kernel
theorem dX1_taxesByLeaks_19 : decode cX1_taxesByLeaks 19 = .ok (.iload_n 2, 1) := by decide +kernel
theorem dX1_taxesByLeaks_20 : decode cX1_taxesByLeaks 20 = .ok (.invokestatic 28, 3) := by decide +kernel
theorem dX1_taxesByLeaks_23 : decode cX1_taxesByLeaks 23 = .ok (.ifCond .eq 16, 3) := by decide +kernel
theorem dX1_taxesByLeaks_26 : decode cX1_taxesByLeaks 26 = .ok (.aload_n 0, 1) := by decide +kernel
theorem dX1_taxesByLeaks_27 : decode cX1_taxesByLeaks 27 = .ok (.getfield 19, 3) := by decide +kernel
theorem dX1_taxesByLeaks_30 : decode cX1_taxesByLeaks 30 = .ok (.getfield 69, 3) := by decide +kernel
theorem dX1_taxesByLeaks_33 : decode cX1_taxesByLeaks 33 = .ok (.iload_n 2, 1) := by decide +kernel
theorem dX1_taxesByLeaks_34 : decode cX1_taxesByLeaks 34 = .ok (.dup2, 1) := by decide +kernel
theorem dX1_taxesByLeaks_35 : decode cX1_taxesByLeaks 35 = .ok (.iaload, 1) := by decide +kernel
theorem dX1_taxesByLeaks_36 : decode cX1_taxesByLeaks 36 = .ok (.iconst 1, 1) := by decide +kernel
theorem dX1_taxesByLeaks_37 : decode cX1_taxesByLeaks 37 = .ok (.isub, 1) := by decide +kernel
theorem dX1_taxesByLeaks_38 : decode cX1_taxesByLeaks 38 = .ok (.iastore, 1) := by decide +kernel
theorem dX1_taxesByLeaks_39 : decode cX1_taxesByLeaks 39 = .ok (.iinc 2 1, 3) := by decide +kernel
theorem dX1_taxesByLeaks_42 : decode cX1_taxesByLeaks 42 = .ok (.goto (-29), 3) := by decide +kernel
theorem dX1_taxesByLeaks_45 : decode cX1_taxesByLeaks 45 = .ok (.aload_n 0, 1) := by decide +kernel
theorem dX1_taxesByLeaks_46 : decode cX1_taxesByLeaks 46 = .ok (.getfield 19, 3) := by decide +kernel
theorem dX1_taxesByLeaks_49 : decode cX1_taxesByLeaks 49 = .ok (.bipush 15, 2) := by decide +kernel
theorem dX1_taxesByLeaks_51 : decode cX1_taxesByLeaks 51 = .ok (.invokevirtual 61, 3) := by decide +kernel
theorem dX1_taxesByLeaks_54 : decode cX1_taxesByLeaks 54 = .ok (.aload_n 0, 1) := by decide +kernel
theorem dX1_taxesByLeaks_55 : decode cX1_taxesByLeaks 55 = .ok (.getfield 19, 3) := by decide +kernel
theorem dX1_taxesByLeaks_58 : decode cX1_taxesByLeaks 58 = .ok (.invokevirtual 65, 3) := by decide +kernel
theorem dX1_taxesByLeaks_61 : decode cX1_taxesByLeaks 61 = .ok (.ireturn, 1) := by decide +kernel
theorem dX1_weightOf_0 : decode cX1_weightOf 0 = .ok (.iconst 1, 1) := by decide +kernel
theorem dX1_weightOf_1 : decode cX1_weightOf 1 = .ok (.istore_n 3, 1) := by decide +kernel
theorem dX1_weightOf_2 : decode cX1_weightOf 2 = .ok (.iconst 0, 1) := by decide +kernel
theorem dX1_weightOf_3 : decode cX1_weightOf 3 = .ok (.istore 4, 2) := by decide +kernel
theorem dX1_weightOf_5 : decode cX1_weightOf 5 = .ok (.iload 4, 2) := by decide +kernel
theorem dX1_weightOf_7 : decode cX1_weightOf 7 = .ok (.iconst 5, 1) := by decide +kernel
theorem dX1_weightOf_8 : decode cX1_weightOf 8 = .ok (.if_icmp .ge 38, 3) := by decide +kernel
theorem dX1_weightOf_11 : decode cX1_weightOf 11 = .ok (.iload_n 1, 1) := by decide +kernel
theorem dX1_weightOf_12 : decode cX1_weightOf 12 = .ok (.iload 4, 2) := by decide +kernel
theorem dX1_weightOf_14 : decode cX1_weightOf 14 = .ok (.invokestatic 28, 3) := by decide +kernel
theorem dX1_weightOf_17 : decode cX1_weightOf 17 = .ok (.ifCond .eq 23, 3) := by decide +kernel
theorem dX1_weightOf_20 : decode cX1_weightOf 20 = .ok (.iload_n 3, 1) := by decide +kernel
theorem dX1_weightOf_21 : decode cX1_weightOf 21 = .ok (.iload_n 0, 1) := by decide +kernel
theorem dX1_weightOf_22 : decode cX1_weightOf 22 = .ok (.iload 4, 2) := by decide +kernel
theorem dX1_weightOf_24 : decode cX1_weightOf 24 = .ok (.invokestatic 28, 3) := by decide +kernel
theorem dX1_weightOf_27 : decode cX1_weightOf 27 = .ok (.ifCond .eq 7, 3) := by decide +kernel
theorem dX1_weightOf_30 : decode cX1_weightOf 30 = .ok (.iload_n 2, 1) := by decide +kernel
theorem dX1_weightOf_31 : decode cX1_weightOf 31 = .ok (.goto 7, 3) := by decide +kernel
theorem dX1_weightOf_34 : decode cX1_weightOf 34 = .ok (.bipush 10, 2) := by decide +kernel
theorem dX1_weightOf_36 : decode cX1_weightOf 36 = .ok (.iload_n 2, 1) := by decide +kernel
theorem dX1_weightOf_37 : decode cX1_weightOf 37 = .ok (.isub, 1) := by decide +kernel
theorem dX1_weightOf_38 : decode cX1_weightOf 38 = .ok (.imul, 1) := by decide +kernel
theorem dX1_weightOf_39 : decode cX1_weightOf 39 = .ok (.istore_n 3, 1) := by decide +kernel
theorem dX1_weightOf_40 : decode cX1_weightOf 40 = .ok (.iinc 4 1, 3) := by decide +kernel
theorem dX1_weightOf_43 : decode cX1_weightOf 43 = .ok (.goto (-38), 3) := by decide +kernel
theorem dX1_weightOf_46 : decode cX1_weightOf 46 = .ok (.iload_n 3, 1) := by decide +kernel
theorem dX1_weightOf_47 : decode cX1_weightOf 47 = .ok (.ireturn, 1) := by decide +kernel
theorem dX2_init_0 : decode cX2_init 0 = .ok (.aload_n 0, 1) := by decide +kernel
theorem dX2_init_1 : decode cX2_init 1 = .ok (.invokespecial 3, 3) := by decide +kernel
theorem dX2_init_4 : decode cX2_init 4 = .ok (.aload_n 0, 1) := by decide +kernel
theorem dX2_init_5 : decode cX2_init 5 = .ok (.iconst 5, 1) := by decide +kernel
theorem dX2_init_6 : decode cX2_init 6 = .ok (.newarray .int, 2) := by decide +kernel
theorem dX2_init_8 : decode cX2_init 8 = .ok (.putfield 9, 3) := by decide +kernel
theorem dX2_init_11 : decode cX2_init 11 = .ok (.aload_n 0, 1) := by decide +kernel
theorem dX2_init_12 : decode cX2_init 12 = .ok (.iconst 5, 1) := by decide +kernel
theorem dX2_init_13 : decode cX2_init 13 = .ok (.newarray .int, 2) := by decide +kernel
theorem dX2_init_15 : decode cX2_init 15 = .ok (.putfield 15, 3) := by decide +kernel
theorem dX2_init_18 : decode cX2_init 18 = .ok (.aload_n 0, 1) := by decide +kernel
theorem dX2_init_19 : decode cX2_init 19 = .ok (.iconst 5, 1) := by decide +kernel
theorem dX2_init_20 : decode cX2_init 20 = .ok (.newarray .int, 2) := by decide +kernel
theorem dX2_init_22 : decode cX2_init 22 = .ok (.putfield 18, 3) := by decide +kernel
theorem dX2_init_25 : decode cX2_init 25 = .ok (.aload_n 0, 1) := by decide +kernel
theorem dX2_init_26 : decode cX2_init 26 = .ok (.iconst 4, 1) := by decide +kernel
theorem dX2_init_27 : decode cX2_init 27 = .ok (.newarray .int, 2) := by decide +kernel
theorem dX2_init_29 : decode cX2_init 29 = .ok (.putfield 21, 3) := by decide +kernel
theorem dX2_init_32 : decode cX2_init 32 = .ok (.aload_n 0, 1) := by decide +kernel
theorem dX2_init_33 : decode cX2_init 33 = .ok (.iconst 4, 1) := by decide +kernel
theorem dX2_init_34 : decode cX2_init 34 = .ok (.newarray .int, 2) := by decide +kernel
theorem dX2_init_36 : decode cX2_init 36 = .ok (.putfield 24, 3) := by decide +kernel
theorem dX2_init_39 : decode cX2_init 39 = .ok (.aload_n 0, 1) := by decide +kernel
theorem dX2_init_40 : decode cX2_init 40 = .ok (.iconst 4, 1) := by decide +kernel
theorem dX2_init_41 : decode cX2_init 41 = .ok (.newarray .int, 2) := by decide +kernel
theorem dX2_init_43 : decode cX2_init 43 = .ok (.putfield 27, 3) := by decide +kernel
theorem dX2_init_46 : decode cX2_init 46 = .ok (.return_, 1) := by decide +kernel
theorem dX2_clear_0 : decode cX2_clear 0 = .ok (.aload_n 0, 1) := by decide +kernel
theorem dX2_clear_1 : decode cX2_clear 1 = .ok (.iconst 0, 1) := by decide +kernel
theorem dX2_clear_2 : decode cX2_clear 2 = .ok (.putfield 30, 3) := by decide +kernel
theorem dX2_clear_5 : decode cX2_clear 5 = .ok (.aload_n 0, 1) := by decide +kernel
theorem dX2_clear_6 : decode cX2_clear 6 = .ok (.iconst 0, 1) := by decide +kernel
theorem dX2_clear_7 : decode cX2_clear 7 = .ok (.putfield 34, 3) := by decide +kernel
theorem dX2_clear_10 : decode cX2_clear 10 = .ok (.iconst 0, 1) := by decide +kernel
theorem dX2_clear_11 : decode cX2_clear 11 = .ok (.istore_n 1, 1) := by decide +kernel
theorem dX2_clear_12 : decode cX2_clear 12 = .ok (.iload_n 1, 1) := by decide +kernel
theorem dX2_clear_13 : decode cX2_clear 13 = .ok (.iconst 5, 1) := by decide +kernel
theorem dX2_clear_14 : decode cX2_clear 14 = .ok (.if_icmp .ge 30, 3) := by decide +kernel
theorem dX2_clear_17 : decode cX2_clear 17 = .ok (.aload_n 0, 1) := by decide +kernel
theorem dX2_clear_18 : decode cX2_clear 18 = .ok (.getfield 9, 3) := by decide +kernel
theorem dX2_clear_21 : decode cX2_clear 21 = .ok (.iload_n 1, 1) := by decide +kernel
theorem dX2_clear_22 : decode cX2_clear 22 = .ok (.iconst 0, 1) := by decide +kernel
theorem dX2_clear_23 : decode cX2_clear 23 = .ok (.iastore, 1) := by decide +kernel
theorem dX2_clear_24 : decode cX2_clear 24 = .ok (.aload_n 0, 1) := by decide +kernel
theorem dX2_clear_25 : decode cX2_clear 25 = .ok (.getfield 15, 3) := by decide +kernel
theorem dX2_clear_28 : decode cX2_clear 28 = .ok (.iload_n 1, 1) := by decide +kernel
theorem dX2_clear_29 : decode cX2_clear 29 = .ok (.iconst 0, 1) := by decide +kernel
theorem dX2_clear_30 : decode cX2_clear 30 = .ok (.iastore, 1) := by decide +kernel
theorem dX2_clear_31 : decode cX2_clear 31 = .ok (.aload_n 0, 1) := by decide +kernel
theorem dX2_clear_32 : decode cX2_clear 32 = .ok (.getfield 18, 3) := by decide +kernel
theorem dX2_clear_35 : decode cX2_clear 35 = .ok (.iload_n 1, 1) := by decide +kernel
theorem dX2_clear_36 : decode cX2_clear 36 = .ok (.iconst 0, 1) := by decide +kernel
theorem dX2_clear_37 : decode cX2_clear 37 = .ok (.iastore, 1) := by decide +kernel
theorem dX2_clear_38 : decode cX2_clear 38 = .ok (.iinc 1 1, 3) := by decide +kernel
theorem dX2_clear_41 : decode cX2_clear 41 = .ok (.goto (-29), 3) := by decide +kernel
theorem dX2_clear_44 : decode cX2_clear 44 = .ok (.iconst 0, 1) := by decide +kernel
theorem dX2_clear_45 : decode cX2_clear 45 = .ok (.istore_n 1, 1) := by decide +kernel
theorem dX2_clear_46 : decode cX2_clear 46 = .ok (.iload_n 1, 1) := by decide +kernel
theorem dX2_clear_47 : decode cX2_clear 47 = .ok (.iconst 4, 1) := by decide +kernel
theorem dX2_clear_48 : decode cX2_clear 48 = .ok (.if_icmp .ge 30, 3) := by decide +kernel
theorem dX2_clear_51 : decode cX2_clear 51 = .ok (.aload_n 0, 1) := by decide +kernel
theorem dX2_clear_52 : decode cX2_clear 52 = .ok (.getfield 21, 3) := by decide +kernel
theorem dX2_clear_55 : decode cX2_clear 55 = .ok (.iload_n 1, 1) := by decide +kernel
theorem dX2_clear_56 : decode cX2_clear 56 = .ok (.iconst 0, 1) := by decide +kernel
theorem dX2_clear_57 : decode cX2_clear 57 = .ok (.iastore, 1) := by decide +kernel
theorem dX2_clear_58 : decode cX2_clear 58 = .ok (.aload_n 0, 1) := by decide +kernel
theorem dX2_clear_59 : decode cX2_clear 59 = .ok (.getfield 24, 3) := by decide +kernel
theorem dX2_clear_62 : decode cX2_clear 62 = .ok (.iload_n 1, 1) := by decide +kernel
theorem dX2_clear_63 : decode cX2_clear 63 = .ok (.iconst 0, 1) := by decide +kernel
theorem dX2_clear_64 : decode cX2_clear 64 = .ok (.iastore, 1) := by decide +kernel
theorem dX2_clear_65 : decode cX2_clear 65 = .ok (.aload_n 0, 1) := by decide +kernel
theorem dX2_clear_66 : decode cX2_clear 66 = .ok (.getfield 27, 3) := by decide +kernel
theorem dX2_clear_69 : decode cX2_clear 69 = .ok (.iload_n 1, 1) := by decide +kernel
theorem dX2_clear_70 : decode cX2_clear 70 = .ok (.iconst 0, 1) := by decide +kernel
theorem dX2_clear_71 : decode cX2_clear 71 = .ok (.iastore, 1) := by decide +kernel
theorem dX2_clear_72 : decode cX2_clear 72 = .ok (.iinc 1 1, 3) := by decide +kernel
theorem dX2_clear_75 : decode cX2_clear 75 = .ok (.goto (-29), 3) := by decide +kernel
theorem dX2_clear_78 : decode cX2_clear 78 = .ok (.return_, 1) := by decide +kernel
theorem dX2_copyFrom_0 : decode cX2_copyFrom 0 = .ok (.aload_n 0, 1) := by decide +kernel
theorem dX2_copyFrom_1 : decode cX2_copyFrom 1 = .ok (.aload_n 1, 1) := by decide +kernel
theorem dX2_copyFrom_2 : decode cX2_copyFrom 2 = .ok (.getfield 30, 3) := by decide +kernel
theorem dX2_copyFrom_5 : decode cX2_copyFrom 5 = .ok (.putfield 30, 3) := by decide +kernel
theorem dX2_copyFrom_8 : decode cX2_copyFrom 8 = .ok (.aload_n 0, 1) := by decide +kernel
theorem dX2_copyFrom_9 : decode cX2_copyFrom 9 = .ok (.aload_n 1, 1) := by decide +kernel
theorem dX2_copyFrom_10 : decode cX2_copyFrom 10 = .ok (.getfield 34, 3) := by decide +kernel
theorem dX2_copyFrom_13 : decode cX2_copyFrom 13 = .ok (.putfield 34, 3) := by decide +kernel
theorem dX2_copyFrom_16 : decode cX2_copyFrom 16 = .ok (.aload_n 1, 1) := by decide +kernel
theorem dX2_copyFrom_17 : decode cX2_copyFrom 17 = .ok (.getfield 9, 3) := by decide +kernel
theorem dX2_copyFrom_20 : decode cX2_copyFrom 20 = .ok (.iconst 0, 1) := by decide +kernel
theorem dX2_copyFrom_21 : decode cX2_copyFrom 21 = .ok (.aload_n 0, 1) := by decide +kernel
theorem dX2_copyFrom_22 : decode cX2_copyFrom 22 = .ok (.getfield 9, 3) := by decide +kernel
theorem dX2_copyFrom_25 : decode cX2_copyFrom 25 = .ok (.iconst 0, 1) := by decide +kernel
theorem dX2_copyFrom_26 : decode cX2_copyFrom 26 = .ok (.iconst 5, 1) := by decide +kernel
theorem dX2_copyFrom_27 : decode cX2_copyFrom 27 = .ok (.invokestatic 37, 3) := by decide +kernel
theorem dX2_copyFrom_30 : decode cX2_copyFrom 30 = .ok (.aload_n 1, 1) := by decide +kernel
theorem dX2_copyFrom_31 : decode cX2_copyFrom 31 = .ok (.getfield 15, 3) := by decide +kernel
theorem dX2_copyFrom_34 : decode cX2_copyFrom 34 = .ok (.iconst 0, 1) := by decide +kernel
theorem dX2_copyFrom_35 : decode cX2_copyFrom 35 = .ok (.aload_n 0, 1) := by decide +kernel
theorem dX2_copyFrom_36 : decode cX2_copyFrom 36 = .ok (.getfield 15, 3) := by decide +kernel
theorem dX2_copyFrom_39 : decode cX2_copyFrom 39 = .ok (.iconst 0, 1) := by decide +kernel
theorem dX2_copyFrom_40 : decode cX2_copyFrom 40 = .ok (.iconst 5, 1) := by decide +kernel
theorem dX2_copyFrom_41 : decode cX2_copyFrom 41 = .ok (.invokestatic 37, 3) := by decide +kernel
theorem dX2_copyFrom_44 : decode cX2_copyFrom 44 = .ok (.aload_n 1, 1) := by decide +kernel
theorem dX2_copyFrom_45 : decode cX2_copyFrom 45 = .ok (.getfield 18, 3) := by decide +kernel
theorem dX2_copyFrom_48 : decode cX2_copyFrom 48 = .ok (.iconst 0, 1) := by decide +kernel
theorem dX2_copyFrom_49 : decode cX2_copyFrom 49 = .ok (.aload_n 0, 1) := by decide +kernel
theorem dX2_copyFrom_50 : decode cX2_copyFrom 50 = .ok (.getfield 18, 3) := by decide +kernel
theorem dX2_copyFrom_53 : decode cX2_copyFrom 53 = .ok (.iconst 0, 1) := by decide +kernel
theorem dX2_copyFrom_54 : decode cX2_copyFrom 54 = .ok (.iconst 5, 1) := by decide +kernel
theorem dX2_copyFrom_55 : decode cX2_copyFrom 55 = .ok (.invokestatic 37, 3) := by decide +kernel
theorem dX2_copyFrom_58 : decode cX2_copyFrom 58 = .ok (.aload_n 1, 1) := by decide +kernel
theorem dX2_copyFrom_59 : decode cX2_copyFrom 59 = .ok (.getfield 21, 3) := by decide +kernel
theorem dX2_copyFrom_62 : decode cX2_copyFrom 62 = .ok (.iconst 0, 1) := by decide +kernel
theorem dX2_copyFrom_63 : decode cX2_copyFrom 63 = .ok (.aload_n 0, 1) := by decide +kernel
theorem dX2_copyFrom_64 : decode cX2_copyFrom 64 = .ok (.getfield 21, 3) := by decide +kernel
theorem dX2_copyFrom_67 : decode cX2_copyFrom 67 = .ok (.iconst 0, 1) := by decide +kernel
theorem dX2_copyFrom_68 : decode cX2_copyFrom 68 = .ok (.iconst 4, 1) := by decide +kernel
theorem dX2_copyFrom_69 : decode cX2_copyFrom 69 = .ok (.invokestatic 37, 3) := by decide +kernel
theorem dX2_copyFrom_72 : decode cX2_copyFrom 72 = .ok (.aload_n 1, 1) := by decide +kernel
theorem dX2_copyFrom_73 : decode cX2_copyFrom 73 = .ok (.getfield 24, 3) := by decide +kernel
theorem dX2_copyFrom_76 : decode cX2_copyFrom 76 = .ok (.iconst 0, 1) := by decide +kernel
theorem dX2_copyFrom_77 : decode cX2_copyFrom 77 = .ok (.aload_n 0, 1) := by decide +kernel
theorem dX2_copyFrom_78 : decode cX2_copyFrom 78 = .ok (.getfield 24, 3) := by decide +kernel
theorem dX2_copyFrom_81 : decode cX2_copyFrom 81 = .ok (.iconst 0, 1) := by decide +kernel
theorem dX2_copyFrom_82 : decode cX2_copyFrom 82 = .ok (.iconst 4, 1) := by decide +kernel
theorem dX2_copyFrom_83 : decode cX2_copyFrom 83 = .ok (.invokestatic 37, 3) := by decide +kernel
theorem dX2_copyFrom_86 : decode cX2_copyFrom 86 = .ok (.aload_n 1, 1) := by decide +kernel
theorem dX2_copyFrom_87 : decode cX2_copyFrom 87 = .ok (.getfield 27, 3) := by decide +kernel
theorem dX2_copyFrom_90 : decode cX2_copyFrom 90 = .ok (.iconst 0, 1) := by decide +kernel
theorem dX2_copyFrom_91 : decode cX2_copyFrom 91 = .ok (.aload_n 0, 1) := by decide +kernel
theorem dX2_copyFrom_92 : decode cX2_copyFrom 92 = .ok (.getfield 27, 3) := by decide +kernel
theorem dX2_copyFrom_95 : decode cX2_copyFrom 95 = .ok (.iconst 0, 1) := by decide +kernel
theorem dX2_copyFrom_96 : decode cX2_copyFrom 96 = .ok (.iconst 4, 1) := by decide +kernel
theorem dX2_copyFrom_97 : decode cX2_copyFrom 97 = .ok (.invokestatic 37, 3) := by decide +kernel
theorem dX2_copyFrom_100 : decode cX2_copyFrom 100 = .ok (.return_, 1) := by decide +kernel
theorem dX2_addGlass_0 : decode cX2_addGlass 0 = .ok (.aload_n 0, 1) := by decide +kernel
theorem dX2_addGlass_1 : decode cX2_addGlass 1 = .ok (.getfield 30, 3) := by decide +kernel
theorem dX2_addGlass_4 : decode cX2_addGlass 4 = .ok (.iconst 5, 1) := by decide +kernel
theorem dX2_addGlass_5 : decode cX2_addGlass 5 = .ok (.if_icmp .ge 43, 3) := by decide +kernel
theorem dX2_addGlass_8 : decode cX2_addGlass 8 = .ok (.aload_n 0, 1) := by decide +kernel
theorem dX2_addGlass_9 : decode cX2_addGlass 9 = .ok (.getfield 9, 3) := by decide +kernel
theorem dX2_addGlass_12 : decode cX2_addGlass 12 = .ok (.aload_n 0, 1) := by decide +kernel
theorem dX2_addGlass_13 : decode cX2_addGlass 13 = .ok (.getfield 30, 3) := by decide +kernel
theorem dX2_addGlass_16 : decode cX2_addGlass 16 = .ok (.iload_n 1, 1) := by decide +kernel
theorem dX2_addGlass_17 : decode cX2_addGlass 17 = .ok (.iastore, 1) := by decide +kernel
theorem dX2_addGlass_18 : decode cX2_addGlass 18 = .ok (.aload_n 0, 1) := by decide +kernel
theorem dX2_addGlass_19 : decode cX2_addGlass 19 = .ok (.getfield 15, 3) := by decide +kernel
theorem dX2_addGlass_22 : decode cX2_addGlass 22 = .ok (.aload_n 0, 1) := by decide +kernel
theorem dX2_addGlass_23 : decode cX2_addGlass 23 = .ok (.getfield 30, 3) := by decide +kernel
theorem dX2_addGlass_26 : decode cX2_addGlass 26 = .ok (.iload_n 2, 1) := by decide +kernel
theorem dX2_addGlass_27 : decode cX2_addGlass 27 = .ok (.iastore, 1) := by decide +kernel
theorem dX2_addGlass_28 : decode cX2_addGlass 28 = .ok (.aload_n 0, 1) := by decide +kernel
theorem dX2_addGlass_29 : decode cX2_addGlass 29 = .ok (.getfield 18, 3) := by decide +kernel
theorem dX2_addGlass_32 : decode cX2_addGlass 32 = .ok (.aload_n 0, 1) := by decide +kernel
theorem dX2_addGlass_33 : decode cX2_addGlass 33 = .ok (.getfield 30, 3) := by decide +kernel
theorem dX2_addGlass_36 : decode cX2_addGlass 36 = .ok (.iload_n 3, 1) := by decide +kernel
theorem dX2_addGlass_37 : decode cX2_addGlass 37 = .ok (.iastore, 1) := by decide +kernel
theorem dX2_addGlass_38 : decode cX2_addGlass 38 = .ok (.aload_n 0, 1) := by decide +kernel
theorem dX2_addGlass_39 : decode cX2_addGlass 39 = .ok (.dup, 1) := by decide +kernel
theorem dX2_addGlass_40 : decode cX2_addGlass 40 = .ok (.getfield 30, 3) := by decide +kernel
theorem dX2_addGlass_43 : decode cX2_addGlass 43 = .ok (.iconst 1, 1) := by decide +kernel
theorem dX2_addGlass_44 : decode cX2_addGlass 44 = .ok (.iadd, 1) := by decide +kernel
theorem dX2_addGlass_45 : decode cX2_addGlass 45 = .ok (.putfield 30, 3) := by decide +kernel
theorem dX2_addGlass_48 : decode cX2_addGlass 48 = .ok (.return_, 1) := by decide +kernel
theorem dX2_addDrinker_0 : decode cX2_addDrinker 0 = .ok (.aload_n 0, 1) := by decide +kernel
theorem dX2_addDrinker_1 : decode cX2_addDrinker 1 = .ok (.getfield 34, 3) := by decide +kernel
theorem dX2_addDrinker_4 : decode cX2_addDrinker 4 = .ok (.iconst 4, 1) := by decide +kernel
theorem dX2_addDrinker_5 : decode cX2_addDrinker 5 = .ok (.if_icmp .ge 33, 3) := by decide +kernel
theorem dX2_addDrinker_8 : decode cX2_addDrinker 8 = .ok (.aload_n 0, 1) := by decide +kernel
theorem dX2_addDrinker_9 : decode cX2_addDrinker 9 = .ok (.getfield 21, 3) := by decide +kernel
theorem dX2_addDrinker_12 : decode cX2_addDrinker 12 = .ok (.aload_n 0, 1) := by decide +kernel
theorem dX2_addDrinker_13 : decode cX2_addDrinker 13 = .ok (.getfield 34, 3) := by decide +kernel
theorem dX2_addDrinker_16 : decode cX2_addDrinker 16 = .ok (.iload_n 1, 1) := by decide +kernel
theorem dX2_addDrinker_17 : decode cX2_addDrinker 17 = .ok (.iastore, 1) := by decide +kernel
theorem dX2_addDrinker_18 : decode cX2_addDrinker 18 = .ok (.aload_n 0, 1) := by decide +kernel
theorem dX2_addDrinker_19 : decode cX2_addDrinker 19 = .ok (.getfield 24, 3) := by decide +kernel
theorem dX2_addDrinker_22 : decode cX2_addDrinker 22 = .ok (.aload_n 0, 1) := by decide +kernel
theorem dX2_addDrinker_23 : decode cX2_addDrinker 23 = .ok (.getfield 34, 3) := by decide +kernel
theorem dX2_addDrinker_26 : decode cX2_addDrinker 26 = .ok (.iload_n 2, 1) := by decide +kernel
theorem dX2_addDrinker_27 : decode cX2_addDrinker 27 = .ok (.iastore, 1) := by decide +kernel
theorem dX2_addDrinker_28 : decode cX2_addDrinker 28 = .ok (.aload_n 0, 1) := by decide +kernel
theorem dX2_addDrinker_29 : decode cX2_addDrinker 29 = .ok (.dup, 1) := by decide +kernel
theorem dX2_addDrinker_30 : decode cX2_addDrinker 30 = .ok (.getfield 34, 3) := by decide +kernel
theorem dX2_addDrinker_33 : decode cX2_addDrinker 33 = .ok (.iconst 1, 1) := by decide +kernel
theorem dX2_addDrinker_34 : decode cX2_addDrinker 34 = .ok (.iadd, 1) := by decide +kernel
theorem dX2_addDrinker_35 : decode cX2_addDrinker 35 = .ok (.putfield 34, 3) := by decide +kernel
theorem dX2_addDrinker_38 : decode cX2_addDrinker 38 = .ok (.return_, 1) := by decide +kernel
theorem dX2_hasGlass_0 : decode cX2_hasGlass 0 = .ok (.iload_n 1, 1) := by decide +kernel
theorem dX2_hasGlass_1 : decode cX2_hasGlass 1 = .ok (.ifCond .lt 15, 3) := by decide +kernel
theorem dX2_hasGlass_4 : decode cX2_hasGlass 4 = .ok (.iload_n 1, 1) := by decide +kernel
theorem dX2_hasGlass_5 : decode cX2_hasGlass 5 = .ok (.aload_n 0, 1) := by decide +kernel
theorem dX2_hasGlass_6 : decode cX2_hasGlass 6 = .ok (.getfield 30, 3) := by decide +kernel
theorem dX2_hasGlass_9 : decode cX2_hasGlass 9 = .ok (.if_icmp .ge 7, 3) := by decide +kernel
theorem dX2_hasGlass_12 : decode cX2_hasGlass 12 = .ok (.iconst 1, 1) := by decide +kernel
theorem dX2_hasGlass_13 : decode cX2_hasGlass 13 = .ok (.goto 4, 3) := by decide +kernel
theorem dX2_hasGlass_16 : decode cX2_hasGlass 16 = .ok (.iconst 0, 1) := by decide +kernel
theorem dX2_hasGlass_17 : decode cX2_hasGlass 17 = .ok (.ireturn, 1) := by decide +kernel
theorem dX2_hasDrinker_0 : decode cX2_hasDrinker 0 = .ok (.iload_n 1, 1) := by decide +kernel
theorem dX2_hasDrinker_1 : decode cX2_hasDrinker 1 = .ok (.ifCond .lt 15, 3) := by decide +kernel
theorem dX2_hasDrinker_4 : decode cX2_hasDrinker 4 = .ok (.iload_n 1, 1) := by decide +kernel
theorem dX2_hasDrinker_5 : decode cX2_hasDrinker 5 = .ok (.aload_n 0, 1) := by decide +kernel
theorem dX2_hasDrinker_6 : decode cX2_hasDrinker 6 = .ok (.getfield 34, 3) := by decide +kernel
theorem dX2_hasDrinker_9 : decode cX2_hasDrinker 9 = .ok (.if_icmp .ge 7, 3) := by decide +kernel
theorem dX2_hasDrinker_12 : decode cX2_hasDrinker 12 = .ok (.iconst 1, 1) := by decide +kernel
theorem dX2_hasDrinker_13 : decode cX2_hasDrinker 13 = .ok (.goto 4, 3) := by decide +kernel
theorem dX2_hasDrinker_16 : decode cX2_hasDrinker 16 = .ok (.iconst 0, 1) := by decide +kernel
theorem dX2_hasDrinker_17 : decode cX2_hasDrinker 17 = .ok (.ireturn, 1) := by decide +kernel
theorem dX2_sits_0 : decode cX2_sits 0 = .ok (.aload_n 0, 1) := by decide +kernel
theorem dX2_sits_1 : decode cX2_sits 1 = .ok (.iload_n 1, 1) := by decide +kernel
theorem dX2_sits_2 : decode cX2_sits 2 = .ok (.invokevirtual 43, 3) := by decide +kernel
theorem dX2_sits_5 : decode cX2_sits 5 = .ok (.ifCond .eq 28, 3) := by decide +kernel
theorem dX2_sits_8 : decode cX2_sits 8 = .ok (.aload_n 0, 1) := by decide +kernel
theorem dX2_sits_9 : decode cX2_sits 9 = .ok (.iload_n 2, 1) := by decide +kernel
theorem dX2_sits_10 : decode cX2_sits 10 = .ok (.invokevirtual 47, 3) := by decide +kernel
theorem dX2_sits_13 : decode cX2_sits 13 = .ok (.ifCond .eq 20, 3) := by decide +kernel
theorem dX2_sits_16 : decode cX2_sits 16 = .ok (.aload_n 0, 1) := by decide +kernel
theorem dX2_sits_17 : decode cX2_sits 17 = .ok (.getfield 27, 3) := by decide +kernel
theorem dX2_sits_20 : decode cX2_sits 20 = .ok (.iload_n 1, 1) := by decide +kernel
theorem dX2_sits_21 : decode cX2_sits 21 = .ok (.iaload, 1) := by decide +kernel
theorem dX2_sits_22 : decode cX2_sits 22 = .ok (.iload_n 2, 1) := by decide +kernel
theorem dX2_sits_23 : decode cX2_sits 23 = .ok (.invokestatic 50, 3) := by decide +kernel
theorem dX2_sits_26 : decode cX2_sits 26 = .ok (.ifCond .eq 7, 3) := by decide +kernel
theorem dX2_sits_29 : decode cX2_sits 29 = .ok (.iconst 1, 1) := by decide +kernel
theorem dX2_sits_30 : decode cX2_sits 30 = .ok (.goto 4, 3) := by decide +kernel
theorem dX2_sits_33 : decode cX2_sits 33 = .ok (.iconst 0, 1) := by decide +kernel
theorem dX2_sits_34 : decode cX2_sits 34 = .ok (.ireturn, 1) := by decide +kernel
theorem dX2_canSit_0 : decode cX2_canSit 0 = .ok (.aload_n 0, 1) := by decide +kernel
theorem dX2_canSit_1 : decode cX2_canSit 1 = .ok (.iload_n 1, 1) := by decide +kernel
theorem dX2_canSit_2 : decode cX2_canSit 2 = .ok (.invokevirtual 43, 3) := by decide +kernel
theorem dX2_canSit_5 : decode cX2_canSit 5 = .ok (.ifCond .eq 24, 3) := by decide +kernel
theorem dX2_canSit_8 : decode cX2_canSit 8 = .ok (.aload_n 0, 1) := by decide +kernel
theorem dX2_canSit_9 : decode cX2_canSit 9 = .ok (.getfield 27, 3) := by decide +kernel
theorem dX2_canSit_12 : decode cX2_canSit 12 = .ok (.iload_n 1, 1) := by decide +kernel
theorem dX2_canSit_13 : decode cX2_canSit 13 = .ok (.iaload, 1) := by decide +kernel
theorem dX2_canSit_14 : decode cX2_canSit 14 = .ok (.iconst 1, 1) := by decide +kernel
theorem dX2_canSit_15 : decode cX2_canSit 15 = .ok (.aload_n 0, 1) := by decide +kernel
theorem dX2_canSit_16 : decode cX2_canSit 16 = .ok (.getfield 30, 3) := by decide +kernel
theorem dX2_canSit_19 : decode cX2_canSit 19 = .ok (.ishl, 1) := by decide +kernel
theorem dX2_canSit_20 : decode cX2_canSit 20 = .ok (.iconst 1, 1) := by decide +kernel
theorem dX2_canSit_21 : decode cX2_canSit 21 = .ok (.isub, 1) := by decide +kernel
theorem dX2_canSit_22 : decode cX2_canSit 22 = .ok (.if_icmp .eq 7, 3) := by decide +kernel
theorem dX2_canSit_25 : decode cX2_canSit 25 = .ok (.iconst 1, 1) := by decide +kernel
theorem dX2_canSit_26 : decode cX2_canSit 26 = .ok (.goto 4, 3) := by decide +kernel
theorem dX2_canSit_29 : decode cX2_canSit 29 = .ok (.iconst 0, 1) := by decide +kernel
theorem dX2_canSit_30 : decode cX2_canSit 30 = .ok (.ireturn, 1) := by decide +kernel
theorem dX2_anyCanSit_0 : decode cX2_anyCanSit 0 = .ok (.iconst 0, 1) := by decide +kernel
theorem dX2_anyCanSit_1 : decode cX2_anyCanSit 1 = .ok (.istore_n 1, 1) := by decide +kernel
theorem dX2_anyCanSit_2 : decode cX2_anyCanSit 2 = .ok (.iload_n 1, 1) := by decide +kernel
theorem dX2_anyCanSit_3 : decode cX2_anyCanSit 3 = .ok (.aload_n 0, 1) := by decide +kernel
theorem dX2_anyCanSit_4 : decode cX2_anyCanSit 4 = .ok (.getfield 34, 3) := by decide +kernel
theorem dX2_anyCanSit_7 : decode cX2_anyCanSit 7 = .ok (.if_icmp .ge 19, 3) := by decide +kernel
theorem dX2_anyCanSit_10 : decode cX2_anyCanSit 10 = .ok (.aload_n 0, 1) := by decide +kernel
theorem dX2_anyCanSit_11 : decode cX2_anyCanSit 11 = .ok (.iload_n 1, 1) := by decide +kernel
theorem dX2_anyCanSit_12 : decode cX2_anyCanSit 12 = .ok (.invokevirtual 54, 3) := by decide +kernel
theorem dX2_anyCanSit_15 : decode cX2_anyCanSit 15 = .ok (.ifCond .eq 5, 3) := by decide +kernel
theorem dX2_anyCanSit_18 : decode cX2_anyCanSit 18 = .ok (.iconst 1, 1) := by decide +kernel
theorem dX2_anyCanSit_19 : decode cX2_anyCanSit 19 = .ok (.ireturn, 1) := by decide +kernel
theorem dX2_anyCanSit_20 : decode cX2_anyCanSit 20 = .ok (.iinc 1 1, 3) := by decide +kernel
theorem dX2_anyCanSit_23 : decode cX2_anyCanSit 23 = .ok (.goto (-21), 3) := by decide +kernel
theorem dX2_anyCanSit_26 : decode cX2_anyCanSit 26 = .ok (.iconst 0, 1) := by decide +kernel
theorem dX2_anyCanSit_27 : decode cX2_anyCanSit 27 = .ok (.ireturn, 1) := by decide +kernel
theorem dX2_sittersAt_0 : decode cX2_sittersAt 0 = .ok (.iconst 0, 1) := by decide +kernel
theorem dX2_sittersAt_1 : decode cX2_sittersAt 1 = .ok (.istore_n 2, 1) := by decide +kernel
theorem dX2_sittersAt_2 : decode cX2_sittersAt 2 = .ok (.iconst 0, 1) := by decide +kernel
theorem dX2_sittersAt_3 : decode cX2_sittersAt 3 = .ok (.istore_n 3, 1) := by decide +kernel
theorem dX2_sittersAt_4 : decode cX2_sittersAt 4 = .ok (.iload_n 3, 1) := by decide +kernel
theorem dX2_sittersAt_5 : decode cX2_sittersAt 5 = .ok (.aload_n 0, 1) := by decide +kernel
theorem dX2_sittersAt_6 : decode cX2_sittersAt 6 = .ok (.getfield 34, 3) := by decide +kernel
theorem dX2_sittersAt_9 : decode cX2_sittersAt 9 = .ok (.if_icmp .ge 24, 3) := by decide +kernel
theorem dX2_sittersAt_12 : decode cX2_sittersAt 12 = .ok (.aload_n 0, 1) := by decide +kernel
theorem dX2_sittersAt_13 : decode cX2_sittersAt 13 = .ok (.iload_n 3, 1) := by decide +kernel
theorem dX2_sittersAt_14 : decode cX2_sittersAt 14 = .ok (.iload_n 1, 1) := by decide +kernel
theorem dX2_sittersAt_15 : decode cX2_sittersAt 15 = .ok (.invokevirtual 57, 3) := by decide +kernel
theorem dX2_sittersAt_18 : decode cX2_sittersAt 18 = .ok (.ifCond .eq 9, 3) := by decide +kernel
theorem dX2_sittersAt_21 : decode cX2_sittersAt 21 = .ok (.iload_n 2, 1) := by decide +kernel
theorem dX2_sittersAt_22 : decode cX2_sittersAt 22 = .ok (.iconst 1, 1) := by decide +kernel
theorem dX2_sittersAt_23 : decode cX2_sittersAt 23 = .ok (.iload_n 3, 1) := by decide +kernel
theorem dX2_sittersAt_24 : decode cX2_sittersAt 24 = .ok (.ishl, 1) := by decide +kernel
theorem dX2_sittersAt_25 : decode cX2_sittersAt 25 = .ok (.ior, 1) := by decide +kernel
theorem dX2_sittersAt_26 : decode cX2_sittersAt 26 = .ok (.istore_n 2, 1) := by decide +kernel
theorem dX2_sittersAt_27 : decode cX2_sittersAt 27 = .ok (.iinc 3 1, 3) := by decide +kernel
theorem dX2_sittersAt_30 : decode cX2_sittersAt 30 = .ok (.goto (-26), 3) := by decide +kernel
theorem dX2_sittersAt_33 : decode cX2_sittersAt 33 = .ok (.iload_n 2, 1) := by decide +kernel
theorem dX2_sittersAt_34 : decode cX2_sittersAt 34 = .ok (.ireturn, 1) := by decide +kernel
theorem dX3_init_0 : decode cX3_init 0 = .ok (.aload_n 0, 1) := by decide +kernel
theorem dX3_init_1 : decode cX3_init 1 = .ok (.invokespecial 3, 3) := by decide +kernel
theorem dX3_init_4 : decode cX3_init 4 = .ok (.aload_n 0, 1) := by decide +kernel
theorem dX3_init_5 : decode cX3_init 5 = .ok (.bipush 60, 2) := by decide +kernel
theorem dX3_init_7 : decode cX3_init 7 = .ok (.newarray .int, 2) := by decide +kernel
theorem dX3_init_9 : decode cX3_init 9 = .ok (.putfield 9, 3) := by decide +kernel
theorem dX3_init_12 : decode cX3_init 12 = .ok (.return_, 1) := by decide +kernel
theorem dX3_add_0 : decode cX3_add 0 = .ok (.aload_n 0, 1) := by decide +kernel
theorem dX3_add_1 : decode cX3_add 1 = .ok (.getfield 15, 3) := by decide +kernel
theorem dX3_add_4 : decode cX3_add 4 = .ok (.bipush 60, 2) := by decide +kernel
theorem dX3_add_6 : decode cX3_add 6 = .ok (.if_icmp .lt 6, 3) := by decide +kernel
theorem dX3_add_9 : decode cX3_add 9 = .ok (.bipush (-4), 2) := by decide +kernel
theorem dX3_add_11 : decode cX3_add 11 = .ok (.ireturn, 1) := by decide +kernel
theorem dX3_add_12 : decode cX3_add 12 = .ok (.aload_n 0, 1) := by decide +kernel
theorem dX3_add_13 : decode cX3_add 13 = .ok (.getfield 9, 3) := by decide +kernel
theorem dX3_add_16 : decode cX3_add 16 = .ok (.aload_n 0, 1) := by decide +kernel
theorem dX3_add_17 : decode cX3_add 17 = .ok (.getfield 15, 3) := by decide +kernel
theorem dX3_add_20 : decode cX3_add 20 = .ok (.iload_n 1, 1) := by decide +kernel
theorem dX3_add_21 : decode cX3_add 21 = .ok (.iastore, 1) := by decide +kernel
theorem dX3_add_22 : decode cX3_add 22 = .ok (.aload_n 0, 1) := by decide +kernel
theorem dX3_add_23 : decode cX3_add 23 = .ok (.dup, 1) := by decide +kernel
theorem dX3_add_24 : decode cX3_add 24 = .ok (.getfield 15, 3) := by decide +kernel
theorem dX3_add_27 : decode cX3_add 27 = .ok (.iconst 1, 1) := by decide +kernel
theorem dX3_add_28 : decode cX3_add 28 = .ok (.iadd, 1) := by decide +kernel
theorem dX3_add_29 : decode cX3_add 29 = .ok (.putfield 15, 3) := by decide +kernel
theorem dX3_add_32 : decode cX3_add 32 = .ok (.aload_n 0, 1) := by decide +kernel
theorem dX3_add_33 : decode cX3_add 33 = .ok (.getfield 15, 3) := by decide +kernel
theorem dX3_add_36 : decode cX3_add 36 = .ok (.ireturn, 1) := by decide +kernel
theorem dX4_init_0 : decode cX4_init 0 = .ok (.aload_n 0, 1) := by decide +kernel
theorem dX4_init_1 : decode cX4_init 1 = .ok (.invokespecial 3, 3) := by decide +kernel
theorem dX4_init_4 : decode cX4_init 4 = .ok (.aload_n 0, 1) := by decide +kernel
theorem dX4_init_5 : decode cX4_init 5 = .ok (.aload_n 1, 1) := by decide +kernel
theorem dX4_init_6 : decode cX4_init 6 = .ok (.putfield 9, 3) := by decide +kernel
theorem dX4_init_9 : decode cX4_init 9 = .ok (.aload_n 0, 1) := by decide +kernel
theorem dX4_init_10 : decode cX4_init 10 = .ok (.aload_n 2, 1) := by decide +kernel
theorem dX4_init_11 : decode cX4_init 11 = .ok (.putfield 15, 3) := by decide +kernel
theorem dX4_init_14 : decode cX4_init 14 = .ok (.return_, 1) := by decide +kernel
theorem dX4_findRests_0 : decode cX4_findRests 0 = .ok (.aload_n 0, 1) := by decide +kernel
theorem dX4_findRests_1 : decode cX4_findRests 1 = .ok (.iload_n 1, 1) := by decide +kernel
theorem dX4_findRests_2 : decode cX4_findRests 2 = .ok (.putfield 19, 3) := by decide +kernel
theorem dX4_findRests_5 : decode cX4_findRests 5 = .ok (.aload_n 0, 1) := by decide +kernel
theorem dX4_findRests_6 : decode cX4_findRests 6 = .ok (.iload_n 2, 1) := by decide +kernel
theorem dX4_findRests_7 : decode cX4_findRests 7 = .ok (.putfield 23, 3) := by decide +kernel
theorem dX4_findRests_10 : decode cX4_findRests 10 = .ok (.aload_n 0, 1) := by decide +kernel
theorem dX4_findRests_11 : decode cX4_findRests 11 = .ok (.iconst 0, 1) := by decide +kernel
theorem dX4_findRests_12 : decode cX4_findRests 12 = .ok (.putfield 26, 3) := by decide +kernel
theorem dX4_findRests_15 : decode cX4_findRests 15 = .ok (.aload_n 0, 1) := by decide +kernel
theorem dX4_findRests_16 : decode cX4_findRests 16 = .ok (.bipush (-9), 2) := by decide +kernel
theorem dX4_findRests_18 : decode cX4_findRests 18 = .ok (.putfield 29, 3) := by decide +kernel
theorem dX4_findRests_21 : decode cX4_findRests 21 = .ok (.iconst 0, 1) := by decide +kernel
theorem dX4_findRests_22 : decode cX4_findRests 22 = .ok (.istore_n 3, 1) := by decide +kernel
theorem dX4_findRests_23 : decode cX4_findRests 23 = .ok (.iload_n 3, 1) := by decide +kernel
theorem dX4_findRests_24 : decode cX4_findRests 24 = .ok (.iconst 5, 1) := by decide +kernel
theorem dX4_findRests_25 : decode cX4_findRests 25 = .ok (.if_icmp .ge 100, 3) := by decide +kernel
theorem dX4_findRests_28 : decode cX4_findRests 28 = .ok (.iconst 0, 1) := by decide +kernel
theorem dX4_findRests_29 : decode cX4_findRests 29 = .ok (.istore 4, 2) := by decide +kernel
theorem dX4_findRests_31 : decode cX4_findRests 31 = .ok (.iload 4, 2) := by decide +kernel
theorem dX4_findRests_33 : decode cX4_findRests 33 = .ok (.iconst 5, 1) := by decide +kernel
theorem dX4_findRests_34 : decode cX4_findRests 34 = .ok (.if_icmp .ge 85, 3) := by decide +kernel
theorem dX4_findRests_37 : decode cX4_findRests 37 = .ok (.aload_n 0, 1) := by decide +kernel
theorem dX4_findRests_38 : decode cX4_findRests 38 = .ok (.getfield 9, 3) := by decide +kernel
theorem dX4_findRests_41 : decode cX4_findRests 41 = .ok (.aload_n 0, 1) := by decide +kernel
theorem dX4_findRests_42 : decode cX4_findRests 42 = .ok (.getfield 19, 3) := by decide +kernel
theorem dX4_findRests_45 : decode cX4_findRests 45 = .ok (.iload_n 3, 1) := by decide +kernel
theorem dX4_findRests_46 : decode cX4_findRests 46 = .ok (.invokevirtual 32, 3) := by decide +kernel
theorem dX4_findRests_49 : decode cX4_findRests 49 = .ok (.ifCond .eq 64, 3) := by decide +kernel
theorem dX4_findRests_52 : decode cX4_findRests 52 = .ok (.aload_n 0, 1) := by decide +kernel
theorem dX4_findRests_53 : decode cX4_findRests 53 = .ok (.getfield 9, 3) := by decide +kernel
theorem dX4_findRests_56 : decode cX4_findRests 56 = .ok (.aload_n 0, 1) := by decide +kernel
theorem dX4_findRests_57 : decode cX4_findRests 57 = .ok (.getfield 23, 3) := by decide +kernel
theorem dX4_findRests_60 : decode cX4_findRests 60 = .ok (.iload 4, 2) := by decide +kernel
theorem dX4_findRests_62 : decode cX4_findRests 62 = .ok (.invokevirtual 32, 3) := by decide +kernel
theorem dX4_findRests_65 : decode cX4_findRests 65 = .ok (.ifCond .eq 48, 3) := by decide +kernel
theorem dX4_findRests_68 : decode cX4_findRests 68 = .ok (.aload_n 0, 1) := by decide +kernel
theorem dX4_findRests_69 : decode cX4_findRests 69 = .ok (.iload_n 3, 1) := by decide +kernel
theorem dX4_findRests_70 : decode cX4_findRests 70 = .ok (.iload 4, 2) := by decide +kernel
theorem dX4_findRests_72 : decode cX4_findRests 72 = .ok (.invokevirtual 38, 3) := by decide +kernel
theorem dX4_findRests_75 : decode cX4_findRests 75 = .ok (.ifCond .eq 38, 3) := by decide +kernel
theorem dX4_findRests_78 : decode cX4_findRests 78 = .ok (.aload_n 0, 1) := by decide +kernel
theorem dX4_findRests_79 : decode cX4_findRests 79 = .ok (.aload_n 0, 1) := by decide +kernel
theorem dX4_findRests_80 : decode cX4_findRests 80 = .ok (.getfield 26, 3) := by decide +kernel
theorem dX4_findRests_83 : decode cX4_findRests 83 = .ok (.ifCond .ne 13, 3) := by decide +kernel
theorem dX4_findRests_86 : decode cX4_findRests 86 = .ok (.bipush 10, 2) := by decide +kernel
theorem dX4_findRests_88 : decode cX4_findRests 88 = .ok (.iload_n 3, 1) := by decide +kernel
theorem dX4_findRests_89 : decode cX4_findRests 89 = .ok (.imul, 1) := by decide +kernel
theorem dX4_findRests_90 : decode cX4_findRests 90 = .ok (.iload 4, 2) := by decide +kernel
theorem dX4_findRests_92 : decode cX4_findRests 92 = .ok (.iadd, 1) := by decide +kernel
theorem dX4_findRests_93 : decode cX4_findRests 93 = .ok (.goto 7, 3) := by decide +kernel
theorem dX4_findRests_96 : decode cX4_findRests 96 = .ok (.aload_n 0, 1) := by decide +kernel
theorem dX4_findRests_97 : decode cX4_findRests 97 = .ok (.getfield 29, 3) := by decide +kernel
theorem dX4_findRests_100 : decode cX4_findRests 100 = .ok (.putfield 29, 3) := by decide +kernel
theorem dX4_findRests_103 : decode cX4_findRests 103 = .ok (.aload_n 0, 1) := by decide +kernel
theorem dX4_findRests_104 : decode cX4_findRests 104 = .ok (.dup, 1) := by decide +kernel
theorem dX4_findRests_105 : decode cX4_findRests 105 = .ok (.getfield 26, 3) := by decide +kernel
theorem dX4_findRests_108 : decode cX4_findRests 108 = .ok (.iconst 1, 1) := by decide +kernel
theorem dX4_findRests_109 : decode cX4_findRests 109 = .ok (.iadd, 1) := by decide +kernel
theorem dX4_findRests_110 : decode cX4_findRests 110 = .ok (.putfield 26, 3) := by decide +kernel
theorem dX4_findRests_113 : decode cX4_findRests 113 = .ok (.iinc 4 1, 3) := by decide +kernel
theorem dX4_findRests_116 : decode cX4_findRests 116 = .ok (.goto (-85), 3) := by decide +kernel
theorem dX4_findRests_119 : decode cX4_findRests 119 = .ok (.iinc 3 1, 3) := by decide +kernel
theorem dX4_findRests_122 : decode cX4_findRests 122 = .ok (.goto (-99), 3) := by decide +kernel
theorem dX4_findRests_125 : decode cX4_findRests 125 = .ok (.return_, 1) := by decide +kernel
theorem dX4_isRest_0 : decode cX4_isRest 0 = .ok (.iconst 0, 1) := by decide +kernel
theorem dX4_isRest_1 : decode cX4_isRest 1 = .ok (.istore_n 3, 1) := by decide +kernel
theorem dX4_isRest_2 : decode cX4_isRest 2 = .ok (.iload_n 3, 1) := by decide +kernel
theorem dX4_isRest_3 : decode cX4_isRest 3 = .ok (.iconst 5, 1) := by decide +kernel
theorem dX4_isRest_4 : decode cX4_isRest 4 = .ok (.if_icmp .ge 73, 3) := by decide +kernel
theorem dX4_isRest_7 : decode cX4_isRest 7 = .ok (.aload_n 0, 1) := by decide +kernel
theorem dX4_isRest_8 : decode cX4_isRest 8 = .ok (.getfield 9, 3) := by decide +kernel
theorem dX4_isRest_11 : decode cX4_isRest 11 = .ok (.aload_n 0, 1) := by decide +kernel
theorem dX4_isRest_12 : decode cX4_isRest 12 = .ok (.getfield 19, 3) := by decide +kernel
theorem dX4_isRest_15 : decode cX4_isRest 15 = .ok (.iload_n 3, 1) := by decide +kernel
theorem dX4_isRest_16 : decode cX4_isRest 16 = .ok (.invokevirtual 32, 3) := by decide +kernel
theorem dX4_isRest_19 : decode cX4_isRest 19 = .ok (.ifCond .eq 20, 3) := by decide +kernel
theorem dX4_isRest_22 : decode cX4_isRest 22 = .ok (.aload_n 0, 1) := by decide +kernel
theorem dX4_isRest_23 : decode cX4_isRest 23 = .ok (.iload_n 3, 1) := by decide +kernel
theorem dX4_isRest_24 : decode cX4_isRest 24 = .ok (.iload_n 2, 1) := by decide +kernel
theorem dX4_isRest_25 : decode cX4_isRest 25 = .ok (.invokevirtual 41, 3) := by decide +kernel
theorem dX4_isRest_28 : decode cX4_isRest 28 = .ok (.aload_n 0, 1) := by decide +kernel
theorem dX4_isRest_29 : decode cX4_isRest 29 = .ok (.iload_n 1, 1) := by decide +kernel
theorem dX4_isRest_30 : decode cX4_isRest 30 = .ok (.iload_n 2, 1) := by decide +kernel
theorem dX4_isRest_31 : decode cX4_isRest 31 = .ok (.invokevirtual 41, 3) := by decide +kernel
theorem dX4_isRest_34 : decode cX4_isRest 34 = .ok (.if_icmp .le 5, 3) := by decide +kernel
theorem dX4_isRest_37 : decode cX4_isRest 37 = .ok (.iconst 0, 1) := by decide +kernel
theorem dX4_isRest_38 : decode cX4_isRest 38 = .ok (.ireturn, 1) := by decide +kernel
theorem dX4_isRest_39 : decode cX4_isRest 39 = .ok (.aload_n 0, 1) := by decide +kernel
theorem dX4_isRest_40 : decode cX4_isRest 40 = .ok (.getfield 9, 3) := by decide +kernel
theorem dX4_isRest_43 : decode cX4_isRest 43 = .ok (.aload_n 0, 1) := by decide +kernel
theorem dX4_isRest_44 : decode cX4_isRest 44 = .ok (.getfield 23, 3) := by decide +kernel
theorem dX4_isRest_47 : decode cX4_isRest 47 = .ok (.iload_n 3, 1) := by decide +kernel
theorem dX4_isRest_48 : decode cX4_isRest 48 = .ok (.invokevirtual 32, 3) := by decide +kernel
theorem dX4_isRest_51 : decode cX4_isRest 51 = .ok (.ifCond .eq 20, 3) := by decide +kernel
theorem dX4_isRest_54 : decode cX4_isRest 54 = .ok (.aload_n 0, 1) := by decide +kernel
theorem dX4_isRest_55 : decode cX4_isRest 55 = .ok (.iload_n 1, 1) := by decide +kernel
theorem dX4_isRest_56 : decode cX4_isRest 56 = .ok (.iload_n 3, 1) := by decide +kernel
theorem dX4_isRest_57 : decode cX4_isRest 57 = .ok (.invokevirtual 45, 3) := by decide +kernel
theorem dX4_isRest_60 : decode cX4_isRest 60 = .ok (.aload_n 0, 1) := by decide +kernel
theorem dX4_isRest_61 : decode cX4_isRest 61 = .ok (.iload_n 1, 1) := by decide +kernel
theorem dX4_isRest_62 : decode cX4_isRest 62 = .ok (.iload_n 2, 1) := by decide +kernel
theorem dX4_isRest_63 : decode cX4_isRest 63 = .ok (.invokevirtual 45, 3) := by decide +kernel
theorem dX4_isRest_66 : decode cX4_isRest 66 = .ok (.if_icmp .le 5, 3) := by decide +kernel
theorem dX4_isRest_69 : decode cX4_isRest 69 = .ok (.iconst 0, 1) := by decide +kernel
theorem dX4_isRest_70 : decode cX4_isRest 70 = .ok (.ireturn, 1) := by decide +kernel
theorem dX4_isRest_71 : decode cX4_isRest 71 = .ok (.iinc 3 1, 3) := by decide +kernel
theorem dX4_isRest_74 : decode cX4_isRest 74 = .ok (.goto (-72), 3) := by decide +kernel
theorem dX4_isRest_77 : decode cX4_isRest 77 = .ok (.iconst 1, 1) := by decide +kernel
theorem dX4_isRest_78 : decode cX4_isRest 78 = .ok (.ireturn, 1) := by decide +kernel
theorem dX4_oneHas_0 : decode cX4_oneHas 0 = .ok (.aload_n 0, 1) := by decide +kernel
theorem dX4_oneHas_1 : decode cX4_oneHas 1 = .ok (.getfield 9, 3) := by decide +kernel
theorem dX4_oneHas_4 : decode cX4_oneHas 4 = .ok (.getfield 48, 3) := by decide +kernel
theorem dX4_oneHas_7 : decode cX4_oneHas 7 = .ok (.aload_n 0, 1) := by decide +kernel
theorem dX4_oneHas_8 : decode cX4_oneHas 8 = .ok (.getfield 19, 3) := by decide +kernel
theorem dX4_oneHas_11 : decode cX4_oneHas 11 = .ok (.iaload, 1) := by decide +kernel
theorem dX4_oneHas_12 : decode cX4_oneHas 12 = .ok (.aload_n 0, 1) := by decide +kernel
theorem dX4_oneHas_13 : decode cX4_oneHas 13 = .ok (.getfield 15, 3) := by decide +kernel
theorem dX4_oneHas_16 : decode cX4_oneHas 16 = .ok (.getfield 52, 3) := by decide +kernel
theorem dX4_oneHas_19 : decode cX4_oneHas 19 = .ok (.aload_n 0, 1) := by decide +kernel
theorem dX4_oneHas_20 : decode cX4_oneHas 20 = .ok (.getfield 19, 3) := by decide +kernel
theorem dX4_oneHas_23 : decode cX4_oneHas 23 = .ok (.iaload, 1) := by decide +kernel
theorem dX4_oneHas_24 : decode cX4_oneHas 24 = .ok (.aload_n 0, 1) := by decide +kernel
theorem dX4_oneHas_25 : decode cX4_oneHas 25 = .ok (.getfield 15, 3) := by decide +kernel
theorem dX4_oneHas_28 : decode cX4_oneHas 28 = .ok (.getfield 57, 3) := by decide +kernel
theorem dX4_oneHas_31 : decode cX4_oneHas 31 = .ok (.iload_n 1, 1) := by decide +kernel
theorem dX4_oneHas_32 : decode cX4_oneHas 32 = .ok (.iaload, 1) := by decide +kernel
theorem dX4_oneHas_33 : decode cX4_oneHas 33 = .ok (.invokestatic 60, 3) := by decide +kernel
theorem dX4_oneHas_36 : decode cX4_oneHas 36 = .ok (.istore_n 3, 1) := by decide +kernel
theorem dX4_oneHas_37 : decode cX4_oneHas 37 = .ok (.iload_n 1, 1) := by decide +kernel
theorem dX4_oneHas_38 : decode cX4_oneHas 38 = .ok (.iload_n 2, 1) := by decide +kernel
theorem dX4_oneHas_39 : decode cX4_oneHas 39 = .ok (.if_icmp .ne 9, 3) := by decide +kernel
theorem dX4_oneHas_42 : decode cX4_oneHas 42 = .ok (.iload_n 3, 1) := by decide +kernel
theorem dX4_oneHas_43 : decode cX4_oneHas 43 = .ok (.iconst 1, 1) := by decide +kernel
theorem dX4_oneHas_44 : decode cX4_oneHas 44 = .ok (.isub, 1) := by decide +kernel
theorem dX4_oneHas_45 : decode cX4_oneHas 45 = .ok (.goto 4, 3) := by decide +kernel
theorem dX4_oneHas_48 : decode cX4_oneHas 48 = .ok (.iload_n 3, 1) := by decide +kernel
theorem dX4_oneHas_49 : decode cX4_oneHas 49 = .ok (.ireturn, 1) := by decide +kernel
theorem dX4_otherHas_0 : decode cX4_otherHas 0 = .ok (.aload_n 0, 1) := by decide +kernel
theorem dX4_otherHas_1 : decode cX4_otherHas 1 = .ok (.getfield 9, 3) := by decide +kernel
theorem dX4_otherHas_4 : decode cX4_otherHas 4 = .ok (.getfield 48, 3) := by decide +kernel
theorem dX4_otherHas_7 : decode cX4_otherHas 7 = .ok (.aload_n 0, 1) := by decide +kernel
theorem dX4_otherHas_8 : decode cX4_otherHas 8 = .ok (.getfield 23, 3) := by decide +kernel
theorem dX4_otherHas_11 : decode cX4_otherHas 11 = .ok (.iaload, 1) := by decide +kernel
theorem dX4_otherHas_12 : decode cX4_otherHas 12 = .ok (.istore_n 3, 1) := by decide +kernel
theorem dX4_otherHas_13 : decode cX4_otherHas 13 = .ok (.aload_n 0, 1) := by decide +kernel
theorem dX4_otherHas_14 : decode cX4_otherHas 14 = .ok (.getfield 15, 3) := by decide +kernel
theorem dX4_otherHas_17 : decode cX4_otherHas 17 = .ok (.getfield 52, 3) := by decide +kernel
theorem dX4_otherHas_20 : decode cX4_otherHas 20 = .ok (.aload_n 0, 1) := by decide +kernel
theorem dX4_otherHas_21 : decode cX4_otherHas 21 = .ok (.getfield 23, 3) := by decide +kernel
theorem dX4_otherHas_24 : decode cX4_otherHas 24 = .ok (.iaload, 1) := by decide +kernel
theorem dX4_otherHas_25 : decode cX4_otherHas 25 = .ok (.istore 4, 2) := by decide +kernel
theorem dX4_otherHas_27 : decode cX4_otherHas 27 = .ok (.iload_n 1, 1) := by decide +kernel
theorem dX4_otherHas_28 : decode cX4_otherHas 28 = .ok (.iload_n 2, 1) := by decide +kernel
theorem dX4_otherHas_29 : decode cX4_otherHas 29 = .ok (.if_icmp .eq 19, 3) := by decide +kernel
theorem dX4_otherHas_32 : decode cX4_otherHas 32 = .ok (.iload_n 3, 1) := by decide +kernel
theorem dX4_otherHas_33 : decode cX4_otherHas 33 = .ok (.iload 4, 2) := by decide +kernel
theorem dX4_otherHas_35 : decode cX4_otherHas 35 = .ok (.aload_n 0, 1) := by decide +kernel
theorem dX4_otherHas_36 : decode cX4_otherHas 36 = .ok (.getfield 15, 3) := by decide +kernel
theorem dX4_otherHas_39 : decode cX4_otherHas 39 = .ok (.getfield 57, 3) := by decide +kernel
theorem dX4_otherHas_42 : decode cX4_otherHas 42 = .ok (.iload_n 2, 1) := by decide +kernel
theorem dX4_otherHas_43 : decode cX4_otherHas 43 = .ok (.iaload, 1) := by decide +kernel
theorem dX4_otherHas_44 : decode cX4_otherHas 44 = .ok (.invokestatic 60, 3) := by decide +kernel
theorem dX4_otherHas_47 : decode cX4_otherHas 47 = .ok (.ireturn, 1) := by decide +kernel
theorem dX4_otherHas_48 : decode cX4_otherHas 48 = .ok (.aload_n 0, 1) := by decide +kernel
theorem dX4_otherHas_49 : decode cX4_otherHas 49 = .ok (.getfield 9, 3) := by decide +kernel
theorem dX4_otherHas_52 : decode cX4_otherHas 52 = .ok (.getfield 48, 3) := by decide +kernel
theorem dX4_otherHas_55 : decode cX4_otherHas 55 = .ok (.aload_n 0, 1) := by decide +kernel
theorem dX4_otherHas_56 : decode cX4_otherHas 56 = .ok (.getfield 19, 3) := by decide +kernel
theorem dX4_otherHas_59 : decode cX4_otherHas 59 = .ok (.iaload, 1) := by decide +kernel
theorem dX4_otherHas_60 : decode cX4_otherHas 60 = .ok (.aload_n 0, 1) := by decide +kernel
theorem dX4_otherHas_61 : decode cX4_otherHas 61 = .ok (.getfield 15, 3) := by decide +kernel
theorem dX4_otherHas_64 : decode cX4_otherHas 64 = .ok (.getfield 52, 3) := by decide +kernel
theorem dX4_otherHas_67 : decode cX4_otherHas 67 = .ok (.aload_n 0, 1) := by decide +kernel
theorem dX4_otherHas_68 : decode cX4_otherHas 68 = .ok (.getfield 19, 3) := by decide +kernel
theorem dX4_otherHas_71 : decode cX4_otherHas 71 = .ok (.iaload, 1) := by decide +kernel
theorem dX4_otherHas_72 : decode cX4_otherHas 72 = .ok (.aload_n 0, 1) := by decide +kernel
theorem dX4_otherHas_73 : decode cX4_otherHas 73 = .ok (.getfield 15, 3) := by decide +kernel
theorem dX4_otherHas_76 : decode cX4_otherHas 76 = .ok (.getfield 57, 3) := by decide +kernel
theorem dX4_otherHas_79 : decode cX4_otherHas 79 = .ok (.iload_n 1, 1) := by decide +kernel
theorem dX4_otherHas_80 : decode cX4_otherHas 80 = .ok (.iaload, 1) := by decide +kernel
theorem dX4_otherHas_81 : decode cX4_otherHas 81 = .ok (.invokestatic 60, 3) := by decide +kernel
theorem dX4_otherHas_84 : decode cX4_otherHas 84 = .ok (.istore 5, 2) := by decide +kernel
theorem dX4_otherHas_86 : decode cX4_otherHas 86 = .ok (.iload_n 3, 1) := by decide +kernel
theorem dX4_otherHas_87 : decode cX4_otherHas 87 = .ok (.iload 4, 2) := by decide +kernel
theorem dX4_otherHas_89 : decode cX4_otherHas 89 = .ok (.aload_n 0, 1) := by decide +kernel
theorem dX4_otherHas_90 : decode cX4_otherHas 90 = .ok (.getfield 15, 3) := by decide +kernel
theorem dX4_otherHas_93 : decode cX4_otherHas 93 = .ok (.getfield 57, 3) := by decide +kernel
theorem dX4_otherHas_96 : decode cX4_otherHas 96 = .ok (.iload_n 2, 1) := by decide +kernel
theorem dX4_otherHas_97 : decode cX4_otherHas 97 = .ok (.iaload, 1) := by decide +kernel
theorem dX4_otherHas_98 : decode cX4_otherHas 98 = .ok (.iload 5, 2) := by decide +kernel
theorem dX4_otherHas_100 : decode cX4_otherHas 100 = .ok (.isub, 1) := by decide +kernel
theorem dX4_otherHas_101 : decode cX4_otherHas 101 = .ok (.invokestatic 60, 3) := by decide +kernel
theorem dX4_otherHas_104 : decode cX4_otherHas 104 = .ok (.iconst 1, 1) := by decide +kernel
theorem dX4_otherHas_105 : decode cX4_otherHas 105 = .ok (.isub, 1) := by decide +kernel
theorem dX4_otherHas_106 : decode cX4_otherHas 106 = .ok (.ireturn, 1) := by decide +kernel
theorem dX5_init_0 : decode cX5_init 0 = .ok (.aload_n 0, 1) := by decide +kernel
theorem dX5_init_1 : decode cX5_init 1 = .ok (.invokespecial 3, 3) := by decide +kernel
theorem dX5_init_4 : decode cX5_init 4 = .ok (.return_, 1) := by decide +kernel
theorem dX5_read_0 : decode cX5_read 0 = .ok (.aload_n 2, 1) := by decide +kernel
theorem dX5_read_1 : decode cX5_read 1 = .ok (.invokevirtual 9, 3) := by decide +kernel
theorem dX5_read_4 : decode cX5_read 4 = .ok (.aload_n 0, 1) := by decide +kernel
theorem dX5_read_5 : decode cX5_read 5 = .ok (.iconst 0, 1) := by decide +kernel
theorem dX5_read_6 : decode cX5_read 6 = .ok (.putfield 16, 3) := by decide +kernel
theorem dX5_read_9 : decode cX5_read 9 = .ok (.iconst 0, 1) := by decide +kernel
theorem dX5_read_10 : decode cX5_read 10 = .ok (.istore_n 3, 1) := by decide +kernel
theorem dX5_read_11 : decode cX5_read 11 = .ok (.iload_n 3, 1) := by decide +kernel
theorem dX5_read_12 : decode cX5_read 12 = .ok (.aload_n 1, 1) := by decide +kernel
theorem dX5_read_13 : decode cX5_read 13 = .ok (.getfield 20, 3) := by decide +kernel
theorem dX5_read_16 : decode cX5_read 16 = .ok (.if_icmp .ge 31, 3) := by decide +kernel
theorem dX5_read_19 : decode cX5_read 19 = .ok (.iload_n 3, 1) := by decide +kernel
theorem dX5_read_20 : decode cX5_read 20 = .ok (.bipush 60, 2) := by decide +kernel
theorem dX5_read_22 : decode cX5_read 22 = .ok (.if_icmp .ge 25, 3) := by decide +kernel
theorem dX5_read_25 : decode cX5_read 25 = .ok (.aload_n 0, 1) := by decide +kernel
theorem dX5_read_26 : decode cX5_read 26 = .ok (.aload_n 1, 1) := by decide +kernel
theorem dX5_read_27 : decode cX5_read 27 = .ok (.getfield 25, 3) := by decide +kernel
theorem dX5_read_30 : decode cX5_read 30 = .ok (.iload_n 3, 1) := by decide +kernel
theorem dX5_read_31 : decode cX5_read 31 = .ok (.iaload, 1) := by decide +kernel
theorem dX5_read_32 : decode cX5_read 32 = .ok (.aload_n 2, 1) := by decide +kernel
theorem dX5_read_33 : decode cX5_read 33 = .ok (.invokevirtual 29, 3) := by decide +kernel
theorem dX5_read_36 : decode cX5_read 36 = .ok (.ifCond .ne 5, 3) := by decide +kernel
theorem dX5_read_39 : decode cX5_read 39 = .ok (.iload_n 3, 1) := by decide +kernel
theorem dX5_read_40 : decode cX5_read 40 = .ok (.ireturn, 1) := by decide +kernel
theorem dX5_read_41 : decode cX5_read 41 = .ok (.iinc 3 1, 3) := by decide +kernel
theorem dX5_read_44 : decode cX5_read 44 = .ok (.goto (-33), 3) := by decide +kernel
theorem dX5_read_47 : decode cX5_read 47 = .ok (.aload_n 0, 1) := by decide +kernel
theorem dX5_read_48 : decode cX5_read 48 = .ok (.getfield 16, 3) := by decide +kernel
theorem dX5_read_51 : decode cX5_read 51 = .ok (.iconst 1, 1) := by decide +kernel
theorem dX5_read_52 : decode cX5_read 52 = .ok (.if_icmp .ne 8, 3) := by decide +kernel
theorem dX5_read_55 : decode cX5_read 55 = .ok (.bipush (-9), 2) := by decide +kernel
theorem dX5_read_57 : decode cX5_read 57 = .ok (.goto 7, 3) := by decide +kernel
theorem dX5_read_60 : decode cX5_read 60 = .ok (.aload_n 1, 1) := by decide +kernel
theorem dX5_read_61 : decode cX5_read 61 = .ok (.getfield 20, 3) := by decide +kernel
theorem dX5_read_64 : decode cX5_read 64 = .ok (.ireturn, 1) := by decide +kernel
theorem dX5_takes_0 : decode cX5_takes 0 = .ok (.aload_n 0, 1) := by decide +kernel
theorem dX5_takes_1 : decode cX5_takes 1 = .ok (.getfield 16, 3) := by decide +kernel
theorem dX5_takes_4 : decode cX5_takes 4 = .ok (.ifCond .ne 20, 3) := by decide +kernel
theorem dX5_takes_7 : decode cX5_takes 7 = .ok (.aload_n 0, 1) := by decide +kernel
theorem dX5_takes_8 : decode cX5_takes 8 = .ok (.iconst 1, 1) := by decide +kernel
theorem dX5_takes_9 : decode cX5_takes 9 = .ok (.putfield 16, 3) := by decide +kernel
theorem dX5_takes_12 : decode cX5_takes 12 = .ok (.iload_n 1, 1) := by decide +kernel
theorem dX5_takes_13 : decode cX5_takes 13 = .ok (.bipush 71, 2) := by decide +kernel
theorem dX5_takes_15 : decode cX5_takes 15 = .ok (.if_icmp .ne 7, 3) := by decide +kernel
theorem dX5_takes_18 : decode cX5_takes 18 = .ok (.iconst 1, 1) := by decide +kernel
theorem dX5_takes_19 : decode cX5_takes 19 = .ok (.goto 4, 3) := by decide +kernel
theorem dX5_takes_22 : decode cX5_takes 22 = .ok (.iconst 0, 1) := by decide +kernel
theorem dX5_takes_23 : decode cX5_takes 23 = .ok (.ireturn, 1) := by decide +kernel
theorem dX5_takes_24 : decode cX5_takes 24 = .ok (.aload_n 0, 1) := by decide +kernel
theorem dX5_takes_25 : decode cX5_takes 25 = .ok (.getfield 16, 3) := by decide +kernel
theorem dX5_takes_28 : decode cX5_takes 28 = .ok (.iconst 1, 1) := by decide +kernel
theorem dX5_takes_29 : decode cX5_takes 29 = .ok (.if_icmp .ne 10, 3) := by decide +kernel
theorem dX5_takes_32 : decode cX5_takes 32 = .ok (.aload_n 0, 1) := by decide +kernel
theorem dX5_takes_33 : decode cX5_takes 33 = .ok (.iload_n 1, 1) := by decide +kernel
theorem dX5_takes_34 : decode cX5_takes 34 = .ok (.aload_n 2, 1) := by decide +kernel
theorem dX5_takes_35 : decode cX5_takes 35 = .ok (.invokevirtual 33, 3) := by decide +kernel
theorem dX5_takes_38 : decode cX5_takes 38 = .ok (.ireturn, 1) := by decide +kernel
theorem dX5_takes_39 : decode cX5_takes 39 = .ok (.iload_n 1, 1) := by decide +kernel
theorem dX5_takes_40 : decode cX5_takes 40 = .ok (.bipush 48, 2) := by decide +kernel
theorem dX5_takes_42 : decode cX5_takes 42 = .ok (.if_icmp .lt 25, 3) := by decide +kernel
theorem dX5_takes_45 : decode cX5_takes 45 = .ok (.iload_n 1, 1) := by decide +kernel
theorem dX5_takes_46 : decode cX5_takes 46 = .ok (.bipush 57, 2) := by decide +kernel
theorem dX5_takes_48 : decode cX5_takes 48 = .ok (.if_icmp .gt 19, 3) := by decide +kernel
theorem dX5_takes_51 : decode cX5_takes 51 = .ok (.aload_n 0, 1) := by decide +kernel
theorem dX5_takes_52 : decode cX5_takes 52 = .ok (.iload_n 1, 1) := by decide +kernel
theorem dX5_takes_53 : decode cX5_takes 53 = .ok (.bipush 48, 2) := by decide +kernel
theorem dX5_takes_55 : decode cX5_takes 55 = .ok (.isub, 1) := by decide +kernel
theorem dX5_takes_56 : decode cX5_takes 56 = .ok (.aload_n 2, 1) := by decide +kernel
theorem dX5_takes_57 : decode cX5_takes 57 = .ok (.invokevirtual 36, 3) := by decide +kernel
theorem dX5_takes_60 : decode cX5_takes 60 = .ok (.ifCond .eq 7, 3) := by decide +kernel
theorem dX5_takes_63 : decode cX5_takes 63 = .ok (.iconst 1, 1) := by decide +kernel
theorem dX5_takes_64 : decode cX5_takes 64 = .ok (.goto 4, 3) := by decide +kernel
theorem dX5_takes_67 : decode cX5_takes 67 = .ok (.iconst 0, 1) := by decide +kernel
theorem dX5_takes_68 : decode cX5_takes 68 = .ok (.ireturn, 1) := by decide +kernel
theorem dX5_takesPart_0 : decode cX5_takesPart 0 = .ok (.iload_n 1, 1) := by decide +kernel
theorem dX5_takesPart_1 : decode cX5_takesPart 1 = .ok (.lookupswitch 84 #[(68, 54), (83, 73), (86, 35)], 35) := by decide +kernel
theorem dX5_takesPart_36 : decode cX5_takesPart 36 = .ok (.aload_n 0, 1) := by decide +kernel
theorem dX5_takesPart_37 : decode cX5_takesPart 37 = .ok (.iconst 2, 1) := by decide +kernel
theorem dX5_takesPart_38 : decode cX5_takesPart 38 = .ok (.putfield 16, 3) := by decide +kernel
theorem dX5_takesPart_41 : decode cX5_takesPart 41 = .ok (.aload_n 2, 1) := by decide +kernel
theorem dX5_takesPart_42 : decode cX5_takesPart 42 = .ok (.getfield 39, 3) := by decide +kernel
theorem dX5_takesPart_45 : decode cX5_takesPart 45 = .ok (.iconst 5, 1) := by decide +kernel
theorem dX5_takesPart_46 : decode cX5_takesPart 46 = .ok (.if_icmp .ge 7, 3) := by decide +kernel
theorem dX5_takesPart_49 : decode cX5_takesPart 49 = .ok (.iconst 1, 1) := by decide +kernel
theorem dX5_takesPart_50 : decode cX5_takesPart 50 = .ok (.goto 4, 3) := by decide +kernel
theorem dX5_takesPart_53 : decode cX5_takesPart 53 = .ok (.iconst 0, 1) := by decide +kernel
theorem dX5_takesPart_54 : decode cX5_takesPart 54 = .ok (.ireturn, 1) := by decide +kernel
theorem dX5_takesPart_55 : decode cX5_takesPart 55 = .ok (.aload_n 0, 1) := by decide +kernel
theorem dX5_takesPart_56 : decode cX5_takesPart 56 = .ok (.iconst 5, 1) := by decide +kernel
theorem dX5_takesPart_57 : decode cX5_takesPart 57 = .ok (.putfield 16, 3) := by decide +kernel
theorem dX5_takesPart_60 : decode cX5_takesPart 60 = .ok (.aload_n 2, 1) := by decide +kernel
theorem dX5_takesPart_61 : decode cX5_takesPart 61 = .ok (.getfield 42, 3) := by decide +kernel
theorem dX5_takesPart_64 : decode cX5_takesPart 64 = .ok (.iconst 4, 1) := by decide +kernel
theorem dX5_takesPart_65 : decode cX5_takesPart 65 = .ok (.if_icmp .ge 7, 3) := by decide +kernel
theorem dX5_takesPart_68 : decode cX5_takesPart 68 = .ok (.iconst 1, 1) := by decide +kernel
theorem dX5_takesPart_69 : decode cX5_takesPart 69 = .ok (.goto 4, 3) := by decide +kernel
theorem dX5_takesPart_72 : decode cX5_takesPart 72 = .ok (.iconst 0, 1) := by decide +kernel
theorem dX5_takesPart_73 : decode cX5_takesPart 73 = .ok (.ireturn, 1) := by decide +kernel
theorem dX5_takesPart_74 : decode cX5_takesPart 74 = .ok (.aload_n 0, 1) := by decide +kernel
theorem dX5_takesPart_75 : decode cX5_takesPart 75 = .ok (.bipush 7, 2) := by decide +kernel
theorem dX5_takesPart_77 : decode cX5_takesPart 77 = .ok (.putfield 16, 3) := by decide +kernel
theorem dX5_takesPart_80 : decode cX5_takesPart 80 = .ok (.aload_n 2, 1) := by decide +kernel
theorem dX5_takesPart_81 : decode cX5_takesPart 81 = .ok (.invokevirtual 45, 3) := by decide +kernel
theorem dX5_takesPart_84 : decode cX5_takesPart 84 = .ok (.ireturn, 1) := by decide +kernel
theorem dX5_takesPart_85 : decode cX5_takesPart 85 = .ok (.iconst 0, 1) := by decide +kernel
theorem dX5_takesPart_86 : decode cX5_takesPart 86 = .ok (.ireturn, 1) := by decide +kernel
theorem dX5_takesFigure_0 : decode cX5_takesFigure 0 = .ok (.aload_n 0, 1) := by decide +kernel
theorem dX5_takesFigure_1 : decode cX5_takesFigure 1 = .ok (.getfield 16, 3) := by decide +kernel
theorem dX5_takesFigure_4 : decode cX5_takesFigure 4 = .ok (.tableswitch 115 2 7 #[40, 61, 115, 85, 115, 98], 40) := by decide +kernel
theorem dX5_takesFigure_44 : decode cX5_takesFigure 44 = .ok (.aload_n 0, 1) := by decide +kernel
theorem dX5_takesFigure_45 : decode cX5_takesFigure 45 = .ok (.iload_n 1, 1) := by decide +kernel
theorem dX5_takesFigure_46 : decode cX5_takesFigure 46 = .ok (.putfield 49, 3) := by decide +kernel
theorem dX5_takesFigure_49 : decode cX5_takesFigure 49 = .ok (.aload_n 0, 1) := by decide +kernel
theorem dX5_takesFigure_50 : decode cX5_takesFigure 50 = .ok (.iconst 3, 1) := by decide +kernel
theorem dX5_takesFigure_51 : decode cX5_takesFigure 51 = .ok (.putfield 16, 3) := by decide +kernel
theorem dX5_takesFigure_54 : decode cX5_takesFigure 54 = .ok (.iload_n 1, 1) := by decide +kernel
theorem dX5_takesFigure_55 : decode cX5_takesFigure 55 = .ok (.iconst 1, 1) := by decide +kernel
theorem dX5_takesFigure_56 : decode cX5_takesFigure 56 = .ok (.if_icmp .lt 7, 3) := by decide +kernel
theorem dX5_takesFigure_59 : decode cX5_takesFigure 59 = .ok (.iconst 1, 1) := by decide +kernel
theorem dX5_takesFigure_60 : decode cX5_takesFigure 60 = .ok (.goto 4, 3) := by decide +kernel
theorem dX5_takesFigure_63 : decode cX5_takesFigure 63 = .ok (.iconst 0, 1) := by decide +kernel
theorem dX5_takesFigure_64 : decode cX5_takesFigure 64 = .ok (.ireturn, 1) := by decide +kernel
theorem dX5_takesFigure_65 : decode cX5_takesFigure 65 = .ok (.aload_n 0, 1) := by decide +kernel
theorem dX5_takesFigure_66 : decode cX5_takesFigure 66 = .ok (.iload_n 1, 1) := by decide +kernel
theorem dX5_takesFigure_67 : decode cX5_takesFigure 67 = .ok (.putfield 52, 3) := by decide +kernel
theorem dX5_takesFigure_70 : decode cX5_takesFigure 70 = .ok (.aload_n 0, 1) := by decide +kernel
theorem dX5_takesFigure_71 : decode cX5_takesFigure 71 = .ok (.iconst 4, 1) := by decide +kernel
theorem dX5_takesFigure_72 : decode cX5_takesFigure 72 = .ok (.putfield 16, 3) := by decide +kernel
theorem dX5_takesFigure_75 : decode cX5_takesFigure 75 = .ok (.iload_n 1, 1) := by decide +kernel
theorem dX5_takesFigure_76 : decode cX5_takesFigure 76 = .ok (.aload_n 0, 1) := by decide +kernel
theorem dX5_takesFigure_77 : decode cX5_takesFigure 77 = .ok (.getfield 49, 3) := by decide +kernel
theorem dX5_takesFigure_80 : decode cX5_takesFigure 80 = .ok (.if_icmp .gt 7, 3) := by decide +kernel
theorem dX5_takesFigure_83 : decode cX5_takesFigure 83 = .ok (.iconst 1, 1) := by decide +kernel
theorem dX5_takesFigure_84 : decode cX5_takesFigure 84 = .ok (.goto 4, 3) := by decide +kernel
theorem dX5_takesFigure_87 : decode cX5_takesFigure 87 = .ok (.iconst 0, 1) := by decide +kernel
theorem dX5_takesFigure_88 : decode cX5_takesFigure 88 = .ok (.ireturn, 1) := by decide +kernel
theorem dX5_takesFigure_89 : decode cX5_takesFigure 89 = .ok (.aload_n 0, 1) := by decide +kernel
theorem dX5_takesFigure_90 : decode cX5_takesFigure 90 = .ok (.iload_n 1, 1) := by decide +kernel
theorem dX5_takesFigure_91 : decode cX5_takesFigure 91 = .ok (.putfield 49, 3) := by decide +kernel
theorem dX5_takesFigure_94 : decode cX5_takesFigure 94 = .ok (.aload_n 0, 1) := by decide +kernel
theorem dX5_takesFigure_95 : decode cX5_takesFigure 95 = .ok (.bipush 6, 2) := by decide +kernel
theorem dX5_takesFigure_97 : decode cX5_takesFigure 97 = .ok (.putfield 16, 3) := by decide +kernel
theorem dX5_takesFigure_100 : decode cX5_takesFigure 100 = .ok (.iconst 1, 1) := by decide +kernel
theorem dX5_takesFigure_101 : decode cX5_takesFigure 101 = .ok (.ireturn, 1) := by decide +kernel
theorem dX5_takesFigure_102 : decode cX5_takesFigure 102 = .ok (.aload_n 0, 1) := by decide +kernel
theorem dX5_takesFigure_103 : decode cX5_takesFigure 103 = .ok (.iload_n 1, 1) := by decide +kernel
theorem dX5_takesFigure_104 : decode cX5_takesFigure 104 = .ok (.putfield 49, 3) := by decide +kernel
theorem dX5_takesFigure_107 : decode cX5_takesFigure 107 = .ok (.aload_n 0, 1) := by decide +kernel
theorem dX5_takesFigure_108 : decode cX5_takesFigure 108 = .ok (.bipush 8, 2) := by decide +kernel
theorem dX5_takesFigure_110 : decode cX5_takesFigure 110 = .ok (.putfield 16, 3) := by decide +kernel
theorem dX5_takesFigure_113 : decode cX5_takesFigure 113 = .ok (.aload_n 2, 1) := by decide +kernel
theorem dX5_takesFigure_114 : decode cX5_takesFigure 114 = .ok (.iload_n 1, 1) := by decide +kernel
theorem dX5_takesFigure_115 : decode cX5_takesFigure 115 = .ok (.invokevirtual 55, 3) := by decide +kernel
theorem dX5_takesFigure_118 : decode cX5_takesFigure 118 = .ok (.ireturn, 1) := by decide +kernel
theorem dX5_takesFigure_119 : decode cX5_takesFigure 119 = .ok (.aload_n 0, 1) := by decide +kernel
theorem dX5_takesFigure_120 : decode cX5_takesFigure 120 = .ok (.iload_n 1, 1) := by decide +kernel
theorem dX5_takesFigure_121 : decode cX5_takesFigure 121 = .ok (.aload_n 2, 1) := by decide +kernel
theorem dX5_takesFigure_122 : decode cX5_takesFigure 122 = .ok (.invokevirtual 59, 3) := by decide +kernel
theorem dX5_takesFigure_125 : decode cX5_takesFigure 125 = .ok (.ireturn, 1) := by decide +kernel
theorem dX5_endsPart_0 : decode cX5_endsPart 0 = .ok (.aload_n 0, 1) := by decide +kernel
theorem dX5_endsPart_1 : decode cX5_endsPart 1 = .ok (.getfield 16, 3) := by decide +kernel
theorem dX5_endsPart_4 : decode cX5_endsPart 4 = .ok (.istore_n 3, 1) := by decide +kernel
theorem dX5_endsPart_5 : decode cX5_endsPart 5 = .ok (.aload_n 0, 1) := by decide +kernel
theorem dX5_endsPart_6 : decode cX5_endsPart 6 = .ok (.iconst 1, 1) := by decide +kernel
theorem dX5_endsPart_7 : decode cX5_endsPart 7 = .ok (.putfield 16, 3) := by decide +kernel
theorem dX5_endsPart_10 : decode cX5_endsPart 10 = .ok (.iload_n 3, 1) := by decide +kernel
theorem dX5_endsPart_11 : decode cX5_endsPart 11 = .ok (.bipush 8, 2) := by decide +kernel
theorem dX5_endsPart_13 : decode cX5_endsPart 13 = .ok (.if_icmp .ne 10, 3) := by decide +kernel
theorem dX5_endsPart_16 : decode cX5_endsPart 16 = .ok (.aload_n 0, 1) := by decide +kernel
theorem dX5_endsPart_17 : decode cX5_endsPart 17 = .ok (.iload_n 1, 1) := by decide +kernel
theorem dX5_endsPart_18 : decode cX5_endsPart 18 = .ok (.aload_n 2, 1) := by decide +kernel
theorem dX5_endsPart_19 : decode cX5_endsPart 19 = .ok (.invokevirtual 62, 3) := by decide +kernel
theorem dX5_endsPart_22 : decode cX5_endsPart 22 = .ok (.ireturn, 1) := by decide +kernel
theorem dX5_endsPart_23 : decode cX5_endsPart 23 = .ok (.iload_n 1, 1) := by decide +kernel
theorem dX5_endsPart_24 : decode cX5_endsPart 24 = .ok (.iconst 3, 1) := by decide +kernel
theorem dX5_endsPart_25 : decode cX5_endsPart 25 = .ok (.if_icmp .le 5, 3) := by decide +kernel
theorem dX5_endsPart_28 : decode cX5_endsPart 28 = .ok (.iconst 0, 1) := by decide +kernel
theorem dX5_endsPart_29 : decode cX5_endsPart 29 = .ok (.ireturn, 1) := by decide +kernel
theorem dX5_endsPart_30 : decode cX5_endsPart 30 = .ok (.iload_n 3, 1) := by decide +kernel
theorem dX5_endsPart_31 : decode cX5_endsPart 31 = .ok (.iconst 4, 1) := by decide +kernel
theorem dX5_endsPart_32 : decode cX5_endsPart 32 = .ok (.if_icmp .ne 19, 3) := by decide +kernel
theorem dX5_endsPart_35 : decode cX5_endsPart 35 = .ok (.aload_n 2, 1) := by decide +kernel
theorem dX5_endsPart_36 : decode cX5_endsPart 36 = .ok (.aload_n 0, 1) := by decide +kernel
theorem dX5_endsPart_37 : decode cX5_endsPart 37 = .ok (.getfield 49, 3) := by decide +kernel
theorem dX5_endsPart_40 : decode cX5_endsPart 40 = .ok (.aload_n 0, 1) := by decide +kernel
theorem dX5_endsPart_41 : decode cX5_endsPart 41 = .ok (.getfield 52, 3) := by decide +kernel
theorem dX5_endsPart_44 : decode cX5_endsPart 44 = .ok (.iload_n 1, 1) := by decide +kernel
theorem dX5_endsPart_45 : decode cX5_endsPart 45 = .ok (.invokevirtual 65, 3) := by decide +kernel
theorem dX5_endsPart_48 : decode cX5_endsPart 48 = .ok (.goto 12, 3) := by decide +kernel
theorem dX5_endsPart_51 : decode cX5_endsPart 51 = .ok (.aload_n 2, 1) := by decide +kernel
theorem dX5_endsPart_52 : decode cX5_endsPart 52 = .ok (.aload_n 0, 1) := by decide +kernel
theorem dX5_endsPart_53 : decode cX5_endsPart 53 = .ok (.getfield 49, 3) := by decide +kernel
theorem dX5_endsPart_56 : decode cX5_endsPart 56 = .ok (.iload_n 1, 1) := by decide +kernel
theorem dX5_endsPart_57 : decode cX5_endsPart 57 = .ok (.invokevirtual 69, 3) := by decide +kernel
theorem dX5_endsPart_60 : decode cX5_endsPart 60 = .ok (.iconst 1, 1) := by decide +kernel
theorem dX5_endsPart_61 : decode cX5_endsPart 61 = .ok (.ireturn, 1) := by decide +kernel
theorem dX5_takesSeat_0 : decode cX5_takesSeat 0 = .ok (.aload_n 2, 1) := by decide +kernel
theorem dX5_takesSeat_1 : decode cX5_takesSeat 1 = .ok (.aload_n 0, 1) := by decide +kernel
theorem dX5_takesSeat_2 : decode cX5_takesSeat 2 = .ok (.getfield 49, 3) := by decide +kernel
theorem dX5_takesSeat_5 : decode cX5_takesSeat 5 = .ok (.invokevirtual 73, 3) := by decide +kernel
theorem dX5_takesSeat_8 : decode cX5_takesSeat 8 = .ok (.ifCond .eq 27, 3) := by decide +kernel
theorem dX5_takesSeat_11 : decode cX5_takesSeat 11 = .ok (.aload_n 2, 1) := by decide +kernel
theorem dX5_takesSeat_12 : decode cX5_takesSeat 12 = .ok (.iload_n 1, 1) := by decide +kernel
theorem dX5_takesSeat_13 : decode cX5_takesSeat 13 = .ok (.invokevirtual 76, 3) := by decide +kernel
theorem dX5_takesSeat_16 : decode cX5_takesSeat 16 = .ok (.ifCond .eq 19, 3) := by decide +kernel
theorem dX5_takesSeat_19 : decode cX5_takesSeat 19 = .ok (.aload_n 2, 1) := by decide +kernel
theorem dX5_takesSeat_20 : decode cX5_takesSeat 20 = .ok (.getfield 79, 3) := by decide +kernel
theorem dX5_takesSeat_23 : decode cX5_takesSeat 23 = .ok (.aload_n 0, 1) := by decide +kernel
theorem dX5_takesSeat_24 : decode cX5_takesSeat 24 = .ok (.getfield 49, 3) := by decide +kernel
theorem dX5_takesSeat_27 : decode cX5_takesSeat 27 = .ok (.iaload, 1) := by decide +kernel
theorem dX5_takesSeat_28 : decode cX5_takesSeat 28 = .ok (.iload_n 1, 1) := by decide +kernel
theorem dX5_takesSeat_29 : decode cX5_takesSeat 29 = .ok (.invokestatic 82, 3) := by decide +kernel
theorem dX5_takesSeat_32 : decode cX5_takesSeat 32 = .ok (.ifCond .eq 5, 3) := by decide +kernel
theorem dX5_takesSeat_35 : decode cX5_takesSeat 35 = .ok (.iconst 0, 1) := by decide +kernel
theorem dX5_takesSeat_36 : decode cX5_takesSeat 36 = .ok (.ireturn, 1) := by decide +kernel
theorem dX5_takesSeat_37 : decode cX5_takesSeat 37 = .ok (.aload_n 2, 1) := by decide +kernel
theorem dX5_takesSeat_38 : decode cX5_takesSeat 38 = .ok (.getfield 79, 3) := by decide +kernel
theorem dX5_takesSeat_41 : decode cX5_takesSeat 41 = .ok (.aload_n 0, 1) := by decide +kernel
theorem dX5_takesSeat_42 : decode cX5_takesSeat 42 = .ok (.getfield 49, 3) := by decide +kernel
theorem dX5_takesSeat_45 : decode cX5_takesSeat 45 = .ok (.dup2, 1) := by decide +kernel
theorem dX5_takesSeat_46 : decode cX5_takesSeat 46 = .ok (.iaload, 1) := by decide +kernel
theorem dX5_takesSeat_47 : decode cX5_takesSeat 47 = .ok (.iconst 1, 1) := by decide +kernel
theorem dX5_takesSeat_48 : decode cX5_takesSeat 48 = .ok (.iload_n 1, 1) := by decide +kernel
theorem dX5_takesSeat_49 : decode cX5_takesSeat 49 = .ok (.ishl, 1) := by decide +kernel
theorem dX5_takesSeat_50 : decode cX5_takesSeat 50 = .ok (.ior, 1) := by decide +kernel
theorem dX5_takesSeat_51 : decode cX5_takesSeat 51 = .ok (.iastore, 1) := by decide +kernel
theorem dX5_takesSeat_52 : decode cX5_takesSeat 52 = .ok (.iconst 1, 1) := by decide +kernel
theorem dX5_takesSeat_53 : decode cX5_takesSeat 53 = .ok (.ireturn, 1) := by decide +kernel
theorem dX6_init_0 : decode cX6_init 0 = .ok (.aload_n 0, 1) := by decide +kernel
theorem dX6_init_1 : decode cX6_init 1 = .ok (.invokespecial 3, 3) := by decide +kernel
theorem dX6_init_4 : decode cX6_init 4 = .ok (.aload_n 0, 1) := by decide +kernel
theorem dX6_init_5 : decode cX6_init 5 = .ok (.iconst 5, 1) := by decide +kernel
theorem dX6_init_6 : decode cX6_init 6 = .ok (.newarray .int, 2) := by decide +kernel
theorem dX6_init_8 : decode cX6_init 8 = .ok (.putfield 9, 3) := by decide +kernel
theorem dX6_init_11 : decode cX6_init 11 = .ok (.aload_n 0, 1) := by decide +kernel
theorem dX6_init_12 : decode cX6_init 12 = .ok (.iconst 4, 1) := by decide +kernel
theorem dX6_init_13 : decode cX6_init 13 = .ok (.newarray .int, 2) := by decide +kernel
theorem dX6_init_15 : decode cX6_init 15 = .ok (.putfield 15, 3) := by decide +kernel
theorem dX6_init_18 : decode cX6_init 18 = .ok (.aload_n 0, 1) := by decide +kernel
theorem dX6_init_19 : decode cX6_init 19 = .ok (.aload_n 1, 1) := by decide +kernel
theorem dX6_init_20 : decode cX6_init 20 = .ok (.putfield 18, 3) := by decide +kernel
theorem dX6_init_23 : decode cX6_init 23 = .ok (.aload_n 0, 1) := by decide +kernel
theorem dX6_init_24 : decode cX6_init 24 = .ok (.aload_n 2, 1) := by decide +kernel
theorem dX6_init_25 : decode cX6_init 25 = .ok (.putfield 22, 3) := by decide +kernel
theorem dX6_init_28 : decode cX6_init 28 = .ok (.aload_n 0, 1) := by decide +kernel
theorem dX6_init_29 : decode cX6_init 29 = .ok (.aload_n 3, 1) := by decide +kernel
theorem dX6_init_30 : decode cX6_init 30 = .ok (.putfield 26, 3) := by decide +kernel
theorem dX6_init_33 : decode cX6_init 33 = .ok (.return_, 1) := by decide +kernel
theorem dX6_startAnew_0 : decode cX6_startAnew 0 = .ok (.aload_n 0, 1) := by decide +kernel
theorem dX6_startAnew_1 : decode cX6_startAnew 1 = .ok (.bipush (-9), 2) := by decide +kernel
theorem dX6_startAnew_3 : decode cX6_startAnew 3 = .ok (.putfield 29, 3) := by decide +kernel
theorem dX6_startAnew_6 : decode cX6_startAnew 6 = .ok (.aload_n 0, 1) := by decide +kernel
theorem dX6_startAnew_7 : decode cX6_startAnew 7 = .ok (.bipush (-9), 2) := by decide +kernel
theorem dX6_startAnew_9 : decode cX6_startAnew 9 = .ok (.putfield 33, 3) := by decide +kernel
theorem dX6_startAnew_12 : decode cX6_startAnew 12 = .ok (.return_, 1) := by decide +kernel
theorem dX6_tryPours_0 : decode cX6_tryPours 0 = .ok (.aload_n 0, 1) := by decide +kernel
theorem dX6_tryPours_1 : decode cX6_tryPours 1 = .ok (.getfield 18, 3) := by decide +kernel
theorem dX6_tryPours_4 : decode cX6_tryPours 4 = .ok (.iload_n 1, 1) := by decide +kernel
theorem dX6_tryPours_5 : decode cX6_tryPours 5 = .ok (.invokevirtual 36, 3) := by decide +kernel
theorem dX6_tryPours_8 : decode cX6_tryPours 8 = .ok (.ifCond .ne 13, 3) := by decide +kernel
theorem dX6_tryPours_11 : decode cX6_tryPours 11 = .ok (.iload_n 2, 1) := by decide +kernel
theorem dX6_tryPours_12 : decode cX6_tryPours 12 = .ok (.ifCond .ne 8, 3) := by decide +kernel
theorem dX6_tryPours_15 : decode cX6_tryPours 15 = .ok (.aload_n 0, 1) := by decide +kernel
theorem dX6_tryPours_16 : decode cX6_tryPours 16 = .ok (.iload_n 3, 1) := by decide +kernel
theorem dX6_tryPours_17 : decode cX6_tryPours 17 = .ok (.invokevirtual 42, 3) := by decide +kernel
theorem dX6_tryPours_20 : decode cX6_tryPours 20 = .ok (.return_, 1) := by decide +kernel
theorem dX6_tryPours_21 : decode cX6_tryPours 21 = .ok (.iconst 0, 1) := by decide +kernel
theorem dX6_tryPours_22 : decode cX6_tryPours 22 = .ok (.iload_n 2, 1) := by decide +kernel
theorem dX6_tryPours_23 : decode cX6_tryPours 23 = .ok (.aload_n 0, 1) := by decide +kernel
theorem dX6_tryPours_24 : decode cX6_tryPours 24 = .ok (.iload_n 1, 1) := by decide +kernel
theorem dX6_tryPours_25 : decode cX6_tryPours 25 = .ok (.invokevirtual 46, 3) := by decide +kernel
theorem dX6_tryPours_28 : decode cX6_tryPours 28 = .ok (.isub, 1) := by decide +kernel
theorem dX6_tryPours_29 : decode cX6_tryPours 29 = .ok (.invokestatic 50, 3) := by decide +kernel
theorem dX6_tryPours_32 : decode cX6_tryPours 32 = .ok (.istore 4, 2) := by decide +kernel
theorem dX6_tryPours_34 : decode cX6_tryPours 34 = .ok (.iload_n 2, 1) := by decide +kernel
theorem dX6_tryPours_35 : decode cX6_tryPours 35 = .ok (.aload_n 0, 1) := by decide +kernel
theorem dX6_tryPours_36 : decode cX6_tryPours 36 = .ok (.getfield 22, 3) := by decide +kernel
theorem dX6_tryPours_39 : decode cX6_tryPours 39 = .ok (.iload_n 1, 1) := by decide +kernel
theorem dX6_tryPours_40 : decode cX6_tryPours 40 = .ok (.invokevirtual 56, 3) := by decide +kernel
theorem dX6_tryPours_43 : decode cX6_tryPours 43 = .ok (.invokestatic 61, 3) := by decide +kernel
theorem dX6_tryPours_46 : decode cX6_tryPours 46 = .ok (.istore 5, 2) := by decide +kernel
theorem dX6_tryPours_48 : decode cX6_tryPours 48 = .ok (.iload 4, 2) := by decide +kernel
theorem dX6_tryPours_50 : decode cX6_tryPours 50 = .ok (.istore 6, 2) := by decide +kernel
theorem dX6_tryPours_52 : decode cX6_tryPours 52 = .ok (.iload 6, 2) := by decide +kernel
theorem dX6_tryPours_54 : decode cX6_tryPours 54 = .ok (.iload 5, 2) := by decide +kernel
theorem dX6_tryPours_56 : decode cX6_tryPours 56 = .ok (.if_icmp .gt 35, 3) := by decide +kernel
theorem dX6_tryPours_59 : decode cX6_tryPours 59 = .ok (.aload_n 0, 1) := by decide +kernel
theorem dX6_tryPours_60 : decode cX6_tryPours 60 = .ok (.getfield 9, 3) := by decide +kernel
theorem dX6_tryPours_63 : decode cX6_tryPours 63 = .ok (.iload_n 1, 1) := by decide +kernel
theorem dX6_tryPours_64 : decode cX6_tryPours 64 = .ok (.iload 6, 2) := by decide +kernel
theorem dX6_tryPours_66 : decode cX6_tryPours 66 = .ok (.iastore, 1) := by decide +kernel
theorem dX6_tryPours_67 : decode cX6_tryPours 67 = .ok (.aload_n 0, 1) := by decide +kernel
theorem dX6_tryPours_68 : decode cX6_tryPours 68 = .ok (.iload_n 1, 1) := by decide +kernel
theorem dX6_tryPours_69 : decode cX6_tryPours 69 = .ok (.iconst 1, 1) := by decide +kernel
theorem dX6_tryPours_70 : decode cX6_tryPours 70 = .ok (.iadd, 1) := by decide +kernel
theorem dX6_tryPours_71 : decode cX6_tryPours 71 = .ok (.iload_n 2, 1) := by decide +kernel
theorem dX6_tryPours_72 : decode cX6_tryPours 72 = .ok (.iload 6, 2) := by decide +kernel
theorem dX6_tryPours_74 : decode cX6_tryPours 74 = .ok (.isub, 1) := by decide +kernel
theorem dX6_tryPours_75 : decode cX6_tryPours 75 = .ok (.bipush 10, 2) := by decide +kernel
theorem dX6_tryPours_77 : decode cX6_tryPours 77 = .ok (.iload_n 3, 1) := by decide +kernel
theorem dX6_tryPours_78 : decode cX6_tryPours 78 = .ok (.imul, 1) := by decide +kernel
theorem dX6_tryPours_79 : decode cX6_tryPours 79 = .ok (.iload 6, 2) := by decide +kernel
theorem dX6_tryPours_81 : decode cX6_tryPours 81 = .ok (.iadd, 1) := by decide +kernel
theorem dX6_tryPours_82 : decode cX6_tryPours 82 = .ok (.invokevirtual 64, 3) := by decide +kernel
theorem dX6_tryPours_85 : decode cX6_tryPours 85 = .ok (.iinc 6 1, 3) := by decide +kernel
theorem dX6_tryPours_88 : decode cX6_tryPours 88 = .ok (.goto (-36), 3) := by decide +kernel
theorem dX6_tryPours_91 : decode cX6_tryPours 91 = .ok (.return_, 1) := by decide +kernel
theorem dX6_roomBehind_0 : decode cX6_roomBehind 0 = .ok (.iconst 0, 1) := by decide +kernel
theorem dX6_roomBehind_1 : decode cX6_roomBehind 1 = .ok (.istore_n 2, 1) := by decide +kernel
theorem dX6_roomBehind_2 : decode cX6_roomBehind 2 = .ok (.iload_n 1, 1) := by decide +kernel
theorem dX6_roomBehind_3 : decode cX6_roomBehind 3 = .ok (.iconst 1, 1) := by decide +kernel
theorem dX6_roomBehind_4 : decode cX6_roomBehind 4 = .ok (.iadd, 1) := by decide +kernel
theorem dX6_roomBehind_5 : decode cX6_roomBehind 5 = .ok (.istore_n 3, 1) := by decide +kernel
theorem dX6_roomBehind_6 : decode cX6_roomBehind 6 = .ok (.iload_n 3, 1) := by decide +kernel
theorem dX6_roomBehind_7 : decode cX6_roomBehind 7 = .ok (.aload_n 0, 1) := by decide +kernel
theorem dX6_roomBehind_8 : decode cX6_roomBehind 8 = .ok (.getfield 18, 3) := by decide +kernel
theorem dX6_roomBehind_11 : decode cX6_roomBehind 11 = .ok (.getfield 68, 3) := by decide +kernel
theorem dX6_roomBehind_14 : decode cX6_roomBehind 14 = .ok (.if_icmp .ge 20, 3) := by decide +kernel
theorem dX6_roomBehind_17 : decode cX6_roomBehind 17 = .ok (.iload_n 2, 1) := by decide +kernel
theorem dX6_roomBehind_18 : decode cX6_roomBehind 18 = .ok (.aload_n 0, 1) := by decide +kernel
theorem dX6_roomBehind_19 : decode cX6_roomBehind 19 = .ok (.getfield 22, 3) := by decide +kernel
theorem dX6_roomBehind_22 : decode cX6_roomBehind 22 = .ok (.iload_n 3, 1) := by decide +kernel
theorem dX6_roomBehind_23 : decode cX6_roomBehind 23 = .ok (.invokevirtual 56, 3) := by decide +kernel
theorem dX6_roomBehind_26 : decode cX6_roomBehind 26 = .ok (.iadd, 1) := by decide +kernel
theorem dX6_roomBehind_27 : decode cX6_roomBehind 27 = .ok (.istore_n 2, 1) := by decide +kernel
theorem dX6_roomBehind_28 : decode cX6_roomBehind 28 = .ok (.iinc 3 1, 3) := by decide +kernel
theorem dX6_roomBehind_31 : decode cX6_roomBehind 31 = .ok (.goto (-25), 3) := by decide +kernel
theorem dX6_roomBehind_34 : decode cX6_roomBehind 34 = .ok (.iload_n 2, 1) := by decide +kernel
theorem dX6_roomBehind_35 : decode cX6_roomBehind 35 = .ok (.ireturn, 1) := by decide +kernel
theorem dX6_weighPours_0 : decode cX6_weighPours 0 = .ok (.aload_n 0, 1) := by decide +kernel
theorem dX6_weighPours_1 : decode cX6_weighPours 1 = .ok (.getfield 26, 3) := by decide +kernel
theorem dX6_weighPours_4 : decode cX6_weighPours 4 = .ok (.aload_n 0, 1) := by decide +kernel
theorem dX6_weighPours_5 : decode cX6_weighPours 5 = .ok (.getfield 22, 3) := by decide +kernel
theorem dX6_weighPours_8 : decode cX6_weighPours 8 = .ok (.invokevirtual 71, 3) := by decide +kernel
theorem dX6_weighPours_11 : decode cX6_weighPours 11 = .ok (.iconst 0, 1) := by decide +kernel
theorem dX6_weighPours_12 : decode cX6_weighPours 12 = .ok (.istore_n 2, 1) := by decide +kernel
theorem dX6_weighPours_13 : decode cX6_weighPours 13 = .ok (.iload_n 2, 1) := by decide +kernel
theorem dX6_weighPours_14 : decode cX6_weighPours 14 = .ok (.aload_n 0, 1) := by decide +kernel
theorem dX6_weighPours_15 : decode cX6_weighPours 15 = .ok (.getfield 18, 3) := by decide +kernel
theorem dX6_weighPours_18 : decode cX6_weighPours 18 = .ok (.getfield 68, 3) := by decide +kernel
theorem dX6_weighPours_21 : decode cX6_weighPours 21 = .ok (.if_icmp .ge 33, 3) := by decide +kernel
theorem dX6_weighPours_24 : decode cX6_weighPours 24 = .ok (.aload_n 0, 1) := by decide +kernel
theorem dX6_weighPours_25 : decode cX6_weighPours 25 = .ok (.getfield 9, 3) := by decide +kernel
theorem dX6_weighPours_28 : decode cX6_weighPours 28 = .ok (.iload_n 2, 1) := by decide +kernel
theorem dX6_weighPours_29 : decode cX6_weighPours 29 = .ok (.iaload, 1) := by decide +kernel
theorem dX6_weighPours_30 : decode cX6_weighPours 30 = .ok (.ifCond .le 18, 3) := by decide +kernel
theorem dX6_weighPours_33 : decode cX6_weighPours 33 = .ok (.aload_n 0, 1) := by decide +kernel
theorem dX6_weighPours_34 : decode cX6_weighPours 34 = .ok (.getfield 26, 3) := by decide +kernel
theorem dX6_weighPours_37 : decode cX6_weighPours 37 = .ok (.iload_n 2, 1) := by decide +kernel
theorem dX6_weighPours_38 : decode cX6_weighPours 38 = .ok (.aload_n 0, 1) := by decide +kernel
theorem dX6_weighPours_39 : decode cX6_weighPours 39 = .ok (.getfield 9, 3) := by decide +kernel
theorem dX6_weighPours_42 : decode cX6_weighPours 42 = .ok (.iload_n 2, 1) := by decide +kernel
theorem dX6_weighPours_43 : decode cX6_weighPours 43 = .ok (.iaload, 1) := by decide +kernel
theorem dX6_weighPours_44 : decode cX6_weighPours 44 = .ok (.invokevirtual 75, 3) := by decide +kernel
theorem dX6_weighPours_47 : decode cX6_weighPours 47 = .ok (.pop, 1) := by decide +kernel
theorem dX6_weighPours_48 : decode cX6_weighPours 48 = .ok (.iinc 2 1, 3) := by decide +kernel
theorem dX6_weighPours_51 : decode cX6_weighPours 51 = .ok (.goto (-38), 3) := by decide +kernel
theorem dX6_weighPours_54 : decode cX6_weighPours 54 = .ok (.aload_n 0, 1) := by decide +kernel
theorem dX6_weighPours_55 : decode cX6_weighPours 55 = .ok (.getfield 26, 3) := by decide +kernel
theorem dX6_weighPours_58 : decode cX6_weighPours 58 = .ok (.bipush 15, 2) := by decide +kernel
theorem dX6_weighPours_60 : decode cX6_weighPours 60 = .ok (.invokevirtual 78, 3) := by decide +kernel
theorem dX6_weighPours_63 : decode cX6_weighPours 63 = .ok (.aload_n 0, 1) := by decide +kernel
theorem dX6_weighPours_64 : decode cX6_weighPours 64 = .ok (.aload_n 0, 1) := by decide +kernel
theorem dX6_weighPours_65 : decode cX6_weighPours 65 = .ok (.getfield 26, 3) := by decide +kernel
theorem dX6_weighPours_68 : decode cX6_weighPours 68 = .ok (.invokevirtual 81, 3) := by decide +kernel
theorem dX6_weighPours_71 : decode cX6_weighPours 71 = .ok (.iload_n 1, 1) := by decide +kernel
theorem dX6_weighPours_72 : decode cX6_weighPours 72 = .ok (.invokevirtual 85, 3) := by decide +kernel
theorem dX6_weighPours_75 : decode cX6_weighPours 75 = .ok (.return_, 1) := by decide +kernel
theorem dX6_keepLess_0 : decode cX6_keepLess 0 = .ok (.aload_n 0, 1) := by decide +kernel
theorem dX6_keepLess_1 : decode cX6_keepLess 1 = .ok (.getfield 33, 3) := by decide +kernel
theorem dX6_keepLess_4 : decode cX6_keepLess 4 = .ok (.bipush (-9), 2) := by decide +kernel
theorem dX6_keepLess_6 : decode cX6_keepLess 6 = .ok (.if_icmp .eq 11, 3) := by decide +kernel
theorem dX6_keepLess_9 : decode cX6_keepLess 9 = .ok (.iload_n 1, 1) := by decide +kernel
theorem dX6_keepLess_10 : decode cX6_keepLess 10 = .ok (.aload_n 0, 1) := by decide +kernel
theorem dX6_keepLess_11 : decode cX6_keepLess 11 = .ok (.getfield 29, 3) := by decide +kernel
theorem dX6_keepLess_14 : decode cX6_keepLess 14 = .ok (.if_icmp .ge 13, 3) := by decide +kernel
theorem dX6_keepLess_17 : decode cX6_keepLess 17 = .ok (.aload_n 0, 1) := by decide +kernel
theorem dX6_keepLess_18 : decode cX6_keepLess 18 = .ok (.iload_n 1, 1) := by decide +kernel
theorem dX6_keepLess_19 : decode cX6_keepLess 19 = .ok (.putfield 29, 3) := by decide +kernel
theorem dX6_keepLess_22 : decode cX6_keepLess 22 = .ok (.aload_n 0, 1) := by decide +kernel
theorem dX6_keepLess_23 : decode cX6_keepLess 23 = .ok (.iload_n 2, 1) := by decide +kernel
theorem dX6_keepLess_24 : decode cX6_keepLess 24 = .ok (.putfield 33, 3) := by decide +kernel
theorem dX6_keepLess_27 : decode cX6_keepLess 27 = .ok (.return_, 1) := by decide +kernel
theorem dX6_fewestForWake_0 : decode cX6_fewestForWake 0 = .ok (.bipush (-9), 2) := by decide +kernel
theorem dX6_fewestForWake_2 : decode cX6_fewestForWake 2 = .ok (.istore_n 1, 1) := by decide +kernel
theorem dX6_fewestForWake_3 : decode cX6_fewestForWake 3 = .ok (.iconst 0, 1) := by decide +kernel
theorem dX6_fewestForWake_4 : decode cX6_fewestForWake 4 = .ok (.istore_n 2, 1) := by decide +kernel
theorem dX6_fewestForWake_5 : decode cX6_fewestForWake 5 = .ok (.iload_n 2, 1) := by decide +kernel
theorem dX6_fewestForWake_6 : decode cX6_fewestForWake 6 = .ok (.iconst 1, 1) := by decide +kernel
theorem dX6_fewestForWake_7 : decode cX6_fewestForWake 7 = .ok (.aload_n 0, 1) := by decide +kernel
theorem dX6_fewestForWake_8 : decode cX6_fewestForWake 8 = .ok (.getfield 18, 3) := by decide +kernel
theorem dX6_fewestForWake_11 : decode cX6_fewestForWake 11 = .ok (.getfield 68, 3) := by decide +kernel
theorem dX6_fewestForWake_14 : decode cX6_fewestForWake 14 = .ok (.ishl, 1) := by decide +kernel
theorem dX6_fewestForWake_15 : decode cX6_fewestForWake 15 = .ok (.if_icmp .ge 46, 3) := by decide +kernel
theorem dX6_fewestForWake_18 : decode cX6_fewestForWake 18 = .ok (.iload_n 1, 1) := by decide +kernel
theorem dX6_fewestForWake_19 : decode cX6_fewestForWake 19 = .ok (.bipush (-9), 2) := by decide +kernel
theorem dX6_fewestForWake_21 : decode cX6_fewestForWake 21 = .ok (.if_icmp .eq 14, 3) := by decide +kernel
theorem dX6_fewestForWake_24 : decode cX6_fewestForWake 24 = .ok (.iload_n 2, 1) := by decide +kernel
theorem dX6_fewestForWake_25 : decode cX6_fewestForWake 25 = .ok (.invokestatic 89, 3) := by decide +kernel
theorem dX6_fewestForWake_28 : decode cX6_fewestForWake 28 = .ok (.iload_n 1, 1) := by decide +kernel
theorem dX6_fewestForWake_29 : decode cX6_fewestForWake 29 = .ok (.invokestatic 89, 3) := by decide +kernel
theorem dX6_fewestForWake_32 : decode cX6_fewestForWake 32 = .ok (.if_icmp .ge 7, 3) := by decide +kernel
theorem dX6_fewestForWake_35 : decode cX6_fewestForWake 35 = .ok (.iconst 1, 1) := by decide +kernel
theorem dX6_fewestForWake_36 : decode cX6_fewestForWake 36 = .ok (.goto 4, 3) := by decide +kernel
theorem dX6_fewestForWake_39 : decode cX6_fewestForWake 39 = .ok (.iconst 0, 1) := by decide +kernel
theorem dX6_fewestForWake_40 : decode cX6_fewestForWake 40 = .ok (.istore_n 3, 1) := by decide +kernel
theorem dX6_fewestForWake_41 : decode cX6_fewestForWake 41 = .ok (.iload_n 3, 1) := by decide +kernel
theorem dX6_fewestForWake_42 : decode cX6_fewestForWake 42 = .ok (.ifCond .eq 13, 3) := by decide +kernel
theorem dX6_fewestForWake_45 : decode cX6_fewestForWake 45 = .ok (.aload_n 0, 1) := by decide +kernel
theorem dX6_fewestForWake_46 : decode cX6_fewestForWake 46 = .ok (.iload_n 2, 1) := by decide +kernel
theorem dX6_fewestForWake_47 : decode cX6_fewestForWake 47 = .ok (.invokevirtual 94, 3) := by decide +kernel
theorem dX6_fewestForWake_50 : decode cX6_fewestForWake 50 = .ok (.ifCond .eq 5, 3) := by decide +kernel
theorem dX6_fewestForWake_53 : decode cX6_fewestForWake 53 = .ok (.iload_n 2, 1) := by decide +kernel
theorem dX6_fewestForWake_54 : decode cX6_fewestForWake 54 = .ok (.istore_n 1, 1) := by decide +kernel
theorem dX6_fewestForWake_55 : decode cX6_fewestForWake 55 = .ok (.iinc 2 1, 3) := by decide +kernel
theorem dX6_fewestForWake_58 : decode cX6_fewestForWake 58 = .ok (.goto (-53), 3) := by decide +kernel
theorem dX6_fewestForWake_61 : decode cX6_fewestForWake 61 = .ok (.iload_n 1, 1) := by decide +kernel
theorem dX6_fewestForWake_62 : decode cX6_fewestForWake 62 = .ok (.ireturn, 1) := by decide +kernel
theorem dX6_isEnough_0 : decode cX6_isEnough 0 = .ok (.aload_n 0, 1) := by decide +kernel
theorem dX6_isEnough_1 : decode cX6_isEnough 1 = .ok (.getfield 26, 3) := by decide +kernel
theorem dX6_isEnough_4 : decode cX6_isEnough 4 = .ok (.aload_n 0, 1) := by decide +kernel
theorem dX6_isEnough_5 : decode cX6_isEnough 5 = .ok (.getfield 22, 3) := by decide +kernel
theorem dX6_isEnough_8 : decode cX6_isEnough 8 = .ok (.invokevirtual 71, 3) := by decide +kernel
theorem dX6_isEnough_11 : decode cX6_isEnough 11 = .ok (.aload_n 0, 1) := by decide +kernel
theorem dX6_isEnough_12 : decode cX6_isEnough 12 = .ok (.getfield 26, 3) := by decide +kernel
theorem dX6_isEnough_15 : decode cX6_isEnough 15 = .ok (.iload_n 1, 1) := by decide +kernel
theorem dX6_isEnough_16 : decode cX6_isEnough 16 = .ok (.invokevirtual 97, 3) := by decide +kernel
theorem dX6_isEnough_19 : decode cX6_isEnough 19 = .ok (.aload_n 0, 1) := by decide +kernel
theorem dX6_isEnough_20 : decode cX6_isEnough 20 = .ok (.getfield 26, 3) := by decide +kernel
theorem dX6_isEnough_23 : decode cX6_isEnough 23 = .ok (.bipush 15, 2) := by decide +kernel
theorem dX6_isEnough_25 : decode cX6_isEnough 25 = .ok (.invokevirtual 78, 3) := by decide +kernel
theorem dX6_isEnough_28 : decode cX6_isEnough 28 = .ok (.aload_n 0, 1) := by decide +kernel
theorem dX6_isEnough_29 : decode cX6_isEnough 29 = .ok (.getfield 26, 3) := by decide +kernel
theorem dX6_isEnough_32 : decode cX6_isEnough 32 = .ok (.invokevirtual 100, 3) := by decide +kernel
theorem dX6_isEnough_35 : decode cX6_isEnough 35 = .ok (.ireturn, 1) := by decide +kernel
theorem dX6_tryTurns_0 : decode cX6_tryTurns 0 = .ok (.iload_n 1, 1) := by decide +kernel
theorem dX6_tryTurns_1 : decode cX6_tryTurns 1 = .ok (.aload_n 0, 1) := by decide +kernel
theorem dX6_tryTurns_2 : decode cX6_tryTurns 2 = .ok (.getfield 18, 3) := by decide +kernel
theorem dX6_tryTurns_5 : decode cX6_tryTurns 5 = .ok (.getfield 104, 3) := by decide +kernel
theorem dX6_tryTurns_8 : decode cX6_tryTurns 8 = .ok (.if_icmp .lt 9, 3) := by decide +kernel
theorem dX6_tryTurns_11 : decode cX6_tryTurns 11 = .ok (.aload_n 0, 1) := by decide +kernel
theorem dX6_tryTurns_12 : decode cX6_tryTurns 12 = .ok (.iload_n 3, 1) := by decide +kernel
theorem dX6_tryTurns_13 : decode cX6_tryTurns 13 = .ok (.invokevirtual 107, 3) := by decide +kernel
theorem dX6_tryTurns_16 : decode cX6_tryTurns 16 = .ok (.return_, 1) := by decide +kernel
theorem dX6_tryTurns_17 : decode cX6_tryTurns 17 = .ok (.iconst 0, 1) := by decide +kernel
theorem dX6_tryTurns_18 : decode cX6_tryTurns 18 = .ok (.istore 4, 2) := by decide +kernel
theorem dX6_tryTurns_20 : decode cX6_tryTurns 20 = .ok (.iload 4, 2) := by decide +kernel
theorem dX6_tryTurns_22 : decode cX6_tryTurns 22 = .ok (.aload_n 0, 1) := by decide +kernel
theorem dX6_tryTurns_23 : decode cX6_tryTurns 23 = .ok (.getfield 18, 3) := by decide +kernel
theorem dX6_tryTurns_26 : decode cX6_tryTurns 26 = .ok (.getfield 104, 3) := by decide +kernel
theorem dX6_tryTurns_29 : decode cX6_tryTurns 29 = .ok (.if_icmp .ge 48, 3) := by decide +kernel
theorem dX6_tryTurns_32 : decode cX6_tryTurns 32 = .ok (.iload_n 2, 1) := by decide +kernel
theorem dX6_tryTurns_33 : decode cX6_tryTurns 33 = .ok (.iload 4, 2) := by decide +kernel
theorem dX6_tryTurns_35 : decode cX6_tryTurns 35 = .ok (.invokestatic 110, 3) := by decide +kernel
theorem dX6_tryTurns_38 : decode cX6_tryTurns 38 = .ok (.ifCond .ne 33, 3) := by decide +kernel
theorem dX6_tryTurns_41 : decode cX6_tryTurns 41 = .ok (.aload_n 0, 1) := by decide +kernel
theorem dX6_tryTurns_42 : decode cX6_tryTurns 42 = .ok (.getfield 15, 3) := by decide +kernel
theorem dX6_tryTurns_45 : decode cX6_tryTurns 45 = .ok (.iload_n 1, 1) := by decide +kernel
theorem dX6_tryTurns_46 : decode cX6_tryTurns 46 = .ok (.iload 4, 2) := by decide +kernel
theorem dX6_tryTurns_48 : decode cX6_tryTurns 48 = .ok (.iastore, 1) := by decide +kernel
theorem dX6_tryTurns_49 : decode cX6_tryTurns 49 = .ok (.aload_n 0, 1) := by decide +kernel
theorem dX6_tryTurns_50 : decode cX6_tryTurns 50 = .ok (.iload_n 1, 1) := by decide +kernel
theorem dX6_tryTurns_51 : decode cX6_tryTurns 51 = .ok (.iconst 1, 1) := by decide +kernel
theorem dX6_tryTurns_52 : decode cX6_tryTurns 52 = .ok (.iadd, 1) := by decide +kernel
theorem dX6_tryTurns_53 : decode cX6_tryTurns 53 = .ok (.iload_n 2, 1) := by decide +kernel
theorem dX6_tryTurns_54 : decode cX6_tryTurns 54 = .ok (.iconst 1, 1) := by decide +kernel
theorem dX6_tryTurns_55 : decode cX6_tryTurns 55 = .ok (.iload 4, 2) := by decide +kernel
theorem dX6_tryTurns_57 : decode cX6_tryTurns 57 = .ok (.ishl, 1) := by decide +kernel
theorem dX6_tryTurns_58 : decode cX6_tryTurns 58 = .ok (.ior, 1) := by decide +kernel
theorem dX6_tryTurns_59 : decode cX6_tryTurns 59 = .ok (.bipush 10, 2) := by decide +kernel
theorem dX6_tryTurns_61 : decode cX6_tryTurns 61 = .ok (.iload_n 3, 1) := by decide +kernel
theorem dX6_tryTurns_62 : decode cX6_tryTurns 62 = .ok (.imul, 1) := by decide +kernel
theorem dX6_tryTurns_63 : decode cX6_tryTurns 63 = .ok (.iload 4, 2) := by decide +kernel
theorem dX6_tryTurns_65 : decode cX6_tryTurns 65 = .ok (.iadd, 1) := by decide +kernel
theorem dX6_tryTurns_66 : decode cX6_tryTurns 66 = .ok (.iconst 1, 1) := by decide +kernel
theorem dX6_tryTurns_67 : decode cX6_tryTurns 67 = .ok (.iadd, 1) := by decide +kernel
theorem dX6_tryTurns_68 : decode cX6_tryTurns 68 = .ok (.invokevirtual 114, 3) := by decide +kernel
theorem dX6_tryTurns_71 : decode cX6_tryTurns 71 = .ok (.iinc 4 1, 3) := by decide +kernel
theorem dX6_tryTurns_74 : decode cX6_tryTurns 74 = .ok (.goto (-54), 3) := by decide +kernel
theorem dX6_tryTurns_77 : decode cX6_tryTurns 77 = .ok (.return_, 1) := by decide +kernel
theorem dX6_weighTurns_0 : decode cX6_weighTurns 0 = .ok (.aload_n 0, 1) := by decide +kernel
theorem dX6_weighTurns_1 : decode cX6_weighTurns 1 = .ok (.getfield 26, 3) := by decide +kernel
theorem dX6_weighTurns_4 : decode cX6_weighTurns 4 = .ok (.aload_n 0, 1) := by decide +kernel
theorem dX6_weighTurns_5 : decode cX6_weighTurns 5 = .ok (.getfield 22, 3) := by decide +kernel
theorem dX6_weighTurns_8 : decode cX6_weighTurns 8 = .ok (.invokevirtual 71, 3) := by decide +kernel
theorem dX6_weighTurns_11 : decode cX6_weighTurns 11 = .ok (.iconst 0, 1) := by decide +kernel
theorem dX6_weighTurns_12 : decode cX6_weighTurns 12 = .ok (.istore_n 2, 1) := by decide +kernel
theorem dX6_weighTurns_13 : decode cX6_weighTurns 13 = .ok (.iload_n 2, 1) := by decide +kernel
theorem dX6_weighTurns_14 : decode cX6_weighTurns 14 = .ok (.aload_n 0, 1) := by decide +kernel
theorem dX6_weighTurns_15 : decode cX6_weighTurns 15 = .ok (.getfield 18, 3) := by decide +kernel
theorem dX6_weighTurns_18 : decode cX6_weighTurns 18 = .ok (.getfield 104, 3) := by decide +kernel
theorem dX6_weighTurns_21 : decode cX6_weighTurns 21 = .ok (.if_icmp .ge 22, 3) := by decide +kernel
theorem dX6_weighTurns_24 : decode cX6_weighTurns 24 = .ok (.aload_n 0, 1) := by decide +kernel
theorem dX6_weighTurns_25 : decode cX6_weighTurns 25 = .ok (.getfield 26, 3) := by decide +kernel
theorem dX6_weighTurns_28 : decode cX6_weighTurns 28 = .ok (.aload_n 0, 1) := by decide +kernel
theorem dX6_weighTurns_29 : decode cX6_weighTurns 29 = .ok (.getfield 15, 3) := by decide +kernel
theorem dX6_weighTurns_32 : decode cX6_weighTurns 32 = .ok (.iload_n 2, 1) := by decide +kernel
theorem dX6_weighTurns_33 : decode cX6_weighTurns 33 = .ok (.iaload, 1) := by decide +kernel
theorem dX6_weighTurns_34 : decode cX6_weighTurns 34 = .ok (.invokevirtual 117, 3) := by decide +kernel
theorem dX6_weighTurns_37 : decode cX6_weighTurns 37 = .ok (.iinc 2 1, 3) := by decide +kernel
theorem dX6_weighTurns_40 : decode cX6_weighTurns 40 = .ok (.goto (-27), 3) := by decide +kernel
theorem dX6_weighTurns_43 : decode cX6_weighTurns 43 = .ok (.aload_n 0, 1) := by decide +kernel
theorem dX6_weighTurns_44 : decode cX6_weighTurns 44 = .ok (.aload_n 0, 1) := by decide +kernel
theorem dX6_weighTurns_45 : decode cX6_weighTurns 45 = .ok (.getfield 26, 3) := by decide +kernel
theorem dX6_weighTurns_48 : decode cX6_weighTurns 48 = .ok (.invokevirtual 120, 3) := by decide +kernel
theorem dX6_weighTurns_51 : decode cX6_weighTurns 51 = .ok (.iload_n 1, 1) := by decide +kernel
theorem dX6_weighTurns_52 : decode cX6_weighTurns 52 = .ok (.invokevirtual 85, 3) := by decide +kernel
theorem dX6_weighTurns_55 : decode cX6_weighTurns 55 = .ok (.return_, 1) := by decide +kernel
theorem dX7_init_0 : decode cX7_init 0 = .ok (.aload_n 0, 1) := by decide +kernel
theorem dX7_init_1 : decode cX7_init 1 = .ok (.invokespecial 3, 3) := by decide +kernel
theorem dX7_init_4 : decode cX7_init 4 = .ok (.aload_n 0, 1) := by decide +kernel
theorem dX7_init_5 : decode cX7_init 5 = .ok (.bipush 6, 2) := by decide +kernel
theorem dX7_init_7 : decode cX7_init 7 = .ok (.newarray .int, 2) := by decide +kernel
theorem dX7_init_9 : decode cX7_init 9 = .ok (.putfield 9, 3) := by decide +kernel
theorem dX7_init_12 : decode cX7_init 12 = .ok (.aload_n 0, 1) := by decide +kernel
theorem dX7_init_13 : decode cX7_init 13 = .ok (.bipush 6, 2) := by decide +kernel
theorem dX7_init_15 : decode cX7_init 15 = .ok (.newarray .int, 2) := by decide +kernel
theorem dX7_init_17 : decode cX7_init 17 = .ok (.putfield 15, 3) := by decide +kernel
theorem dX7_init_20 : decode cX7_init 20 = .ok (.aload_n 0, 1) := by decide +kernel
theorem dX7_init_21 : decode cX7_init 21 = .ok (.bipush 6, 2) := by decide +kernel
theorem dX7_init_23 : decode cX7_init 23 = .ok (.newarray .int, 2) := by decide +kernel
theorem dX7_init_25 : decode cX7_init 25 = .ok (.putfield 18, 3) := by decide +kernel
theorem dX7_init_28 : decode cX7_init 28 = .ok (.return_, 1) := by decide +kernel
theorem dX7_add_0 : decode cX7_add 0 = .ok (.aload_n 0, 1) := by decide +kernel
theorem dX7_add_1 : decode cX7_add 1 = .ok (.getfield 21, 3) := by decide +kernel
theorem dX7_add_4 : decode cX7_add 4 = .ok (.bipush 6, 2) := by decide +kernel
theorem dX7_add_6 : decode cX7_add 6 = .ok (.if_icmp .lt 6, 3) := by decide +kernel
theorem dX7_add_9 : decode cX7_add 9 = .ok (.bipush (-4), 2) := by decide +kernel
theorem dX7_add_11 : decode cX7_add 11 = .ok (.ireturn, 1) := by decide +kernel
theorem dX7_add_12 : decode cX7_add 12 = .ok (.aload_n 0, 1) := by decide +kernel
theorem dX7_add_13 : decode cX7_add 13 = .ok (.getfield 9, 3) := by decide +kernel
theorem dX7_add_16 : decode cX7_add 16 = .ok (.aload_n 0, 1) := by decide +kernel
theorem dX7_add_17 : decode cX7_add 17 = .ok (.getfield 21, 3) := by decide +kernel
theorem dX7_add_20 : decode cX7_add 20 = .ok (.iload_n 1, 1) := by decide +kernel
theorem dX7_add_21 : decode cX7_add 21 = .ok (.iastore, 1) := by decide +kernel
theorem dX7_add_22 : decode cX7_add 22 = .ok (.aload_n 0, 1) := by decide +kernel
theorem dX7_add_23 : decode cX7_add 23 = .ok (.getfield 15, 3) := by decide +kernel
theorem dX7_add_26 : decode cX7_add 26 = .ok (.aload_n 0, 1) := by decide +kernel
theorem dX7_add_27 : decode cX7_add 27 = .ok (.getfield 21, 3) := by decide +kernel
theorem dX7_add_30 : decode cX7_add 30 = .ok (.iload_n 2, 1) := by decide +kernel
theorem dX7_add_31 : decode cX7_add 31 = .ok (.iastore, 1) := by decide +kernel
theorem dX7_add_32 : decode cX7_add 32 = .ok (.aload_n 0, 1) := by decide +kernel
theorem dX7_add_33 : decode cX7_add 33 = .ok (.getfield 18, 3) := by decide +kernel
theorem dX7_add_36 : decode cX7_add 36 = .ok (.aload_n 0, 1) := by decide +kernel
theorem dX7_add_37 : decode cX7_add 37 = .ok (.getfield 21, 3) := by decide +kernel
theorem dX7_add_40 : decode cX7_add 40 = .ok (.iload_n 3, 1) := by decide +kernel
theorem dX7_add_41 : decode cX7_add 41 = .ok (.iastore, 1) := by decide +kernel
theorem dX7_add_42 : decode cX7_add 42 = .ok (.aload_n 0, 1) := by decide +kernel
theorem dX7_add_43 : decode cX7_add 43 = .ok (.dup, 1) := by decide +kernel
theorem dX7_add_44 : decode cX7_add 44 = .ok (.getfield 21, 3) := by decide +kernel
theorem dX7_add_47 : decode cX7_add 47 = .ok (.iconst 1, 1) := by decide +kernel
theorem dX7_add_48 : decode cX7_add 48 = .ok (.iadd, 1) := by decide +kernel
theorem dX7_add_49 : decode cX7_add 49 = .ok (.putfield 21, 3) := by decide +kernel
theorem dX7_add_52 : decode cX7_add 52 = .ok (.aload_n 0, 1) := by decide +kernel
theorem dX7_add_53 : decode cX7_add 53 = .ok (.getfield 21, 3) := by decide +kernel
theorem dX7_add_56 : decode cX7_add 56 = .ok (.ireturn, 1) := by decide +kernel
theorem dX7_thirstsOf_0 : decode cX7_thirstsOf 0 = .ok (.iconst 0, 1) := by decide +kernel
theorem dX7_thirstsOf_1 : decode cX7_thirstsOf 1 = .ok (.istore_n 3, 1) := by decide +kernel
theorem dX7_thirstsOf_2 : decode cX7_thirstsOf 2 = .ok (.iconst 0, 1) := by decide +kernel
theorem dX7_thirstsOf_3 : decode cX7_thirstsOf 3 = .ok (.istore 4, 2) := by decide +kernel
theorem dX7_thirstsOf_5 : decode cX7_thirstsOf 5 = .ok (.iload 4, 2) := by decide +kernel
theorem dX7_thirstsOf_7 : decode cX7_thirstsOf 7 = .ok (.bipush 9, 2) := by decide +kernel
theorem dX7_thirstsOf_9 : decode cX7_thirstsOf 9 = .ok (.if_icmp .gt 27, 3) := by decide +kernel
theorem dX7_thirstsOf_12 : decode cX7_thirstsOf 12 = .ok (.aload_n 0, 1) := by decide +kernel
theorem dX7_thirstsOf_13 : decode cX7_thirstsOf 13 = .ok (.iload_n 1, 1) := by decide +kernel
theorem dX7_thirstsOf_14 : decode cX7_thirstsOf 14 = .ok (.iload_n 2, 1) := by decide +kernel
theorem dX7_thirstsOf_15 : decode cX7_thirstsOf 15 = .ok (.iload 4, 2) := by decide +kernel
theorem dX7_thirstsOf_17 : decode cX7_thirstsOf 17 = .ok (.invokevirtual 25, 3) := by decide +kernel
theorem dX7_thirstsOf_20 : decode cX7_thirstsOf 20 = .ok (.ifCond .eq 10, 3) := by decide +kernel
theorem dX7_thirstsOf_23 : decode cX7_thirstsOf 23 = .ok (.iload_n 3, 1) := by decide +kernel
theorem dX7_thirstsOf_24 : decode cX7_thirstsOf 24 = .ok (.iconst 1, 1) := by decide +kernel
theorem dX7_thirstsOf_25 : decode cX7_thirstsOf 25 = .ok (.iload 4, 2) := by decide +kernel
theorem dX7_thirstsOf_27 : decode cX7_thirstsOf 27 = .ok (.ishl, 1) := by decide +kernel
theorem dX7_thirstsOf_28 : decode cX7_thirstsOf 28 = .ok (.ior, 1) := by decide +kernel
theorem dX7_thirstsOf_29 : decode cX7_thirstsOf 29 = .ok (.istore_n 3, 1) := by decide +kernel
theorem dX7_thirstsOf_30 : decode cX7_thirstsOf 30 = .ok (.iinc 4 1, 3) := by decide +kernel
theorem dX7_thirstsOf_33 : decode cX7_thirstsOf 33 = .ok (.goto (-28), 3) := by decide +kernel
theorem dX7_thirstsOf_36 : decode cX7_thirstsOf 36 = .ok (.iload_n 3, 1) := by decide +kernel
theorem dX7_thirstsOf_37 : decode cX7_thirstsOf 37 = .ok (.ireturn, 1) := by decide +kernel
theorem dX7_fits_0 : decode cX7_fits 0 = .ok (.iconst 0, 1) := by decide +kernel
theorem dX7_fits_1 : decode cX7_fits 1 = .ok (.istore 4, 2) := by decide +kernel
theorem dX7_fits_3 : decode cX7_fits 3 = .ok (.iload 4, 2) := by decide +kernel
theorem dX7_fits_5 : decode cX7_fits 5 = .ok (.aload_n 0, 1) := by decide +kernel
theorem dX7_fits_6 : decode cX7_fits 6 = .ok (.getfield 21, 3) := by decide +kernel
theorem dX7_fits_9 : decode cX7_fits 9 = .ok (.if_icmp .ge 59, 3) := by decide +kernel
theorem dX7_fits_12 : decode cX7_fits 12 = .ok (.iload 4, 2) := by decide +kernel
theorem dX7_fits_14 : decode cX7_fits 14 = .ok (.bipush 6, 2) := by decide +kernel
theorem dX7_fits_16 : decode cX7_fits 16 = .ok (.if_icmp .ge 52, 3) := by decide +kernel
theorem dX7_fits_19 : decode cX7_fits 19 = .ok (.aload_n 0, 1) := by decide +kernel
theorem dX7_fits_20 : decode cX7_fits 20 = .ok (.getfield 9, 3) := by decide +kernel
theorem dX7_fits_23 : decode cX7_fits 23 = .ok (.iload 4, 2) := by decide +kernel
theorem dX7_fits_25 : decode cX7_fits 25 = .ok (.iaload, 1) := by decide +kernel
theorem dX7_fits_26 : decode cX7_fits 26 = .ok (.iload_n 1, 1) := by decide +kernel
theorem dX7_fits_27 : decode cX7_fits 27 = .ok (.if_icmp .ne 35, 3) := by decide +kernel
theorem dX7_fits_30 : decode cX7_fits 30 = .ok (.aload_n 0, 1) := by decide +kernel
theorem dX7_fits_31 : decode cX7_fits 31 = .ok (.getfield 15, 3) := by decide +kernel
theorem dX7_fits_34 : decode cX7_fits 34 = .ok (.iload 4, 2) := by decide +kernel
theorem dX7_fits_36 : decode cX7_fits 36 = .ok (.iaload, 1) := by decide +kernel
theorem dX7_fits_37 : decode cX7_fits 37 = .ok (.iload_n 2, 1) := by decide +kernel
theorem dX7_fits_38 : decode cX7_fits 38 = .ok (.iload_n 3, 1) := by decide +kernel
theorem dX7_fits_39 : decode cX7_fits 39 = .ok (.aload_n 0, 1) := by decide +kernel
theorem dX7_fits_40 : decode cX7_fits 40 = .ok (.getfield 15, 3) := by decide +kernel
theorem dX7_fits_43 : decode cX7_fits 43 = .ok (.iload 4, 2) := by decide +kernel
theorem dX7_fits_45 : decode cX7_fits 45 = .ok (.iaload, 1) := by decide +kernel
theorem dX7_fits_46 : decode cX7_fits 46 = .ok (.invokestatic 29, 3) := by decide +kernel
theorem dX7_fits_49 : decode cX7_fits 49 = .ok (.isub, 1) := by decide +kernel
theorem dX7_fits_50 : decode cX7_fits 50 = .ok (.aload_n 0, 1) := by decide +kernel
theorem dX7_fits_51 : decode cX7_fits 51 = .ok (.getfield 18, 3) := by decide +kernel
theorem dX7_fits_54 : decode cX7_fits 54 = .ok (.iload 4, 2) := by decide +kernel
theorem dX7_fits_56 : decode cX7_fits 56 = .ok (.iaload, 1) := by decide +kernel
theorem dX7_fits_57 : decode cX7_fits 57 = .ok (.if_icmp .eq 5, 3) := by decide +kernel
theorem dX7_fits_60 : decode cX7_fits 60 = .ok (.iconst 0, 1) := by decide +kernel
theorem dX7_fits_61 : decode cX7_fits 61 = .ok (.ireturn, 1) := by decide +kernel
theorem dX7_fits_62 : decode cX7_fits 62 = .ok (.iinc 4 1, 3) := by decide +kernel
theorem dX7_fits_65 : decode cX7_fits 65 = .ok (.goto (-62), 3) := by decide +kernel
theorem dX7_fits_68 : decode cX7_fits 68 = .ok (.iconst 1, 1) := by decide +kernel
theorem dX7_fits_69 : decode cX7_fits 69 = .ok (.ireturn, 1) := by decide +kernel
theorem dX8_init_0 : decode cX8_init 0 = .ok (.aload_n 0, 1) := by decide +kernel
theorem dX8_init_1 : decode cX8_init 1 = .ok (.invokespecial 3, 3) := by decide +kernel
theorem dX8_init_4 : decode cX8_init 4 = .ok (.aload_n 0, 1) := by decide +kernel
theorem dX8_init_5 : decode cX8_init 5 = .ok (.iconst 0, 1) := by decide +kernel
theorem dX8_init_6 : decode cX8_init 6 = .ok (.iload_n 1, 1) := by decide +kernel
theorem dX8_init_7 : decode cX8_init 7 = .ok (.invokestatic 9, 3) := by decide +kernel
theorem dX8_init_10 : decode cX8_init 10 = .ok (.putfield 15, 3) := by decide +kernel
theorem dX8_init_13 : decode cX8_init 13 = .ok (.aload_n 0, 1) := by decide +kernel
theorem dX8_init_14 : decode cX8_init 14 = .ok (.aload_n 0, 1) := by decide +kernel
theorem dX8_init_15 : decode cX8_init 15 = .ok (.getfield 15, 3) := by decide +kernel
theorem dX8_init_18 : decode cX8_init 18 = .ok (.bipush 15, 2) := by decide +kernel
theorem dX8_init_20 : decode cX8_init 20 = .ok (.imul, 1) := by decide +kernel
theorem dX8_init_21 : decode cX8_init 21 = .ok (.newarray .int, 2) := by decide +kernel
theorem dX8_init_23 : decode cX8_init 23 = .ok (.putfield 21, 3) := by decide +kernel
theorem dX8_init_26 : decode cX8_init 26 = .ok (.return_, 1) := by decide +kernel
theorem dX8_lay_0 : decode cX8_lay 0 = .ok (.iload_n 1, 1) := by decide +kernel
theorem dX8_lay_1 : decode cX8_lay 1 = .ok (.ifCond .lt 11, 3) := by decide +kernel
theorem dX8_lay_4 : decode cX8_lay 4 = .ok (.iload_n 1, 1) := by decide +kernel
theorem dX8_lay_5 : decode cX8_lay 5 = .ok (.aload_n 0, 1) := by decide +kernel
theorem dX8_lay_6 : decode cX8_lay 6 = .ok (.getfield 15, 3) := by decide +kernel
theorem dX8_lay_9 : decode cX8_lay 9 = .ok (.if_icmp .lt 4, 3) := by decide +kernel
theorem dX8_lay_12 : decode cX8_lay 12 = .ok (.return_, 1) := by decide +kernel
theorem dX8_lay_13 : decode cX8_lay 13 = .ok (.iload_n 1, 1) := by decide +kernel
theorem dX8_lay_14 : decode cX8_lay 14 = .ok (.bipush 15, 2) := by decide +kernel
theorem dX8_lay_16 : decode cX8_lay 16 = .ok (.imul, 1) := by decide +kernel
theorem dX8_lay_17 : decode cX8_lay 17 = .ok (.istore_n 3, 1) := by decide +kernel
theorem dX8_lay_18 : decode cX8_lay 18 = .ok (.aload_n 2, 1) := by decide +kernel
theorem dX8_lay_19 : decode cX8_lay 19 = .ok (.getfield 25, 3) := by decide +kernel
theorem dX8_lay_22 : decode cX8_lay 22 = .ok (.iconst 0, 1) := by decide +kernel
theorem dX8_lay_23 : decode cX8_lay 23 = .ok (.aload_n 0, 1) := by decide +kernel
theorem dX8_lay_24 : decode cX8_lay 24 = .ok (.getfield 21, 3) := by decide +kernel
theorem dX8_lay_27 : decode cX8_lay 27 = .ok (.iload_n 3, 1) := by decide +kernel
theorem dX8_lay_28 : decode cX8_lay 28 = .ok (.iconst 5, 1) := by decide +kernel
theorem dX8_lay_29 : decode cX8_lay 29 = .ok (.invokestatic 30, 3) := by decide +kernel
theorem dX8_lay_32 : decode cX8_lay 32 = .ok (.aload_n 2, 1) := by decide +kernel
theorem dX8_lay_33 : decode cX8_lay 33 = .ok (.getfield 36, 3) := by decide +kernel
theorem dX8_lay_36 : decode cX8_lay 36 = .ok (.iconst 0, 1) := by decide +kernel
theorem dX8_lay_37 : decode cX8_lay 37 = .ok (.aload_n 0, 1) := by decide +kernel
theorem dX8_lay_38 : decode cX8_lay 38 = .ok (.getfield 21, 3) := by decide +kernel
theorem dX8_lay_41 : decode cX8_lay 41 = .ok (.iload_n 3, 1) := by decide +kernel
theorem dX8_lay_42 : decode cX8_lay 42 = .ok (.iconst 5, 1) := by decide +kernel
theorem dX8_lay_43 : decode cX8_lay 43 = .ok (.iadd, 1) := by decide +kernel
theorem dX8_lay_44 : decode cX8_lay 44 = .ok (.iconst 5, 1) := by decide +kernel
theorem dX8_lay_45 : decode cX8_lay 45 = .ok (.invokestatic 30, 3) := by decide +kernel
theorem dX8_lay_48 : decode cX8_lay 48 = .ok (.aload_n 2, 1) := by decide +kernel
theorem dX8_lay_49 : decode cX8_lay 49 = .ok (.getfield 39, 3) := by decide +kernel
theorem dX8_lay_52 : decode cX8_lay 52 = .ok (.iconst 0, 1) := by decide +kernel
theorem dX8_lay_53 : decode cX8_lay 53 = .ok (.aload_n 0, 1) := by decide +kernel
theorem dX8_lay_54 : decode cX8_lay 54 = .ok (.getfield 21, 3) := by decide +kernel
theorem dX8_lay_57 : decode cX8_lay 57 = .ok (.iload_n 3, 1) := by decide +kernel
theorem dX8_lay_58 : decode cX8_lay 58 = .ok (.bipush 10, 2) := by decide +kernel
theorem dX8_lay_60 : decode cX8_lay 60 = .ok (.iadd, 1) := by decide +kernel
theorem dX8_lay_61 : decode cX8_lay 61 = .ok (.iconst 4, 1) := by decide +kernel
theorem dX8_lay_62 : decode cX8_lay 62 = .ok (.invokestatic 30, 3) := by decide +kernel
theorem dX8_lay_65 : decode cX8_lay 65 = .ok (.aload_n 0, 1) := by decide +kernel
theorem dX8_lay_66 : decode cX8_lay 66 = .ok (.getfield 21, 3) := by decide +kernel
theorem dX8_lay_69 : decode cX8_lay 69 = .ok (.iload_n 3, 1) := by decide +kernel
theorem dX8_lay_70 : decode cX8_lay 70 = .ok (.bipush 15, 2) := by decide +kernel
theorem dX8_lay_72 : decode cX8_lay 72 = .ok (.iadd, 1) := by decide +kernel
theorem dX8_lay_73 : decode cX8_lay 73 = .ok (.iconst 1, 1) := by decide +kernel
theorem dX8_lay_74 : decode cX8_lay 74 = .ok (.isub, 1) := by decide +kernel
theorem dX8_lay_75 : decode cX8_lay 75 = .ok (.aload_n 2, 1) := by decide +kernel
theorem dX8_lay_76 : decode cX8_lay 76 = .ok (.getfield 42, 3) := by decide +kernel
theorem dX8_lay_79 : decode cX8_lay 79 = .ok (.iastore, 1) := by decide +kernel
theorem dX8_lay_80 : decode cX8_lay 80 = .ok (.return_, 1) := by decide +kernel
theorem dX8_fetch_0 : decode cX8_fetch 0 = .ok (.iload_n 1, 1) := by decide +kernel
theorem dX8_fetch_1 : decode cX8_fetch 1 = .ok (.ifCond .lt 11, 3) := by decide +kernel
theorem dX8_fetch_4 : decode cX8_fetch 4 = .ok (.iload_n 1, 1) := by decide +kernel
theorem dX8_fetch_5 : decode cX8_fetch 5 = .ok (.aload_n 0, 1) := by decide +kernel
theorem dX8_fetch_6 : decode cX8_fetch 6 = .ok (.getfield 15, 3) := by decide +kernel
theorem dX8_fetch_9 : decode cX8_fetch 9 = .ok (.if_icmp .lt 4, 3) := by decide +kernel
theorem dX8_fetch_12 : decode cX8_fetch 12 = .ok (.return_, 1) := by decide +kernel
theorem dX8_fetch_13 : decode cX8_fetch 13 = .ok (.iload_n 1, 1) := by decide +kernel
theorem dX8_fetch_14 : decode cX8_fetch 14 = .ok (.bipush 15, 2) := by decide +kernel
theorem dX8_fetch_16 : decode cX8_fetch 16 = .ok (.imul, 1) := by decide +kernel
theorem dX8_fetch_17 : decode cX8_fetch 17 = .ok (.istore_n 3, 1) := by decide +kernel
theorem dX8_fetch_18 : decode cX8_fetch 18 = .ok (.aload_n 0, 1) := by decide +kernel
theorem dX8_fetch_19 : decode cX8_fetch 19 = .ok (.getfield 21, 3) := by decide +kernel
theorem dX8_fetch_22 : decode cX8_fetch 22 = .ok (.iload_n 3, 1) := by decide +kernel
theorem dX8_fetch_23 : decode cX8_fetch 23 = .ok (.aload_n 2, 1) := by decide +kernel
theorem dX8_fetch_24 : decode cX8_fetch 24 = .ok (.getfield 25, 3) := by decide +kernel
theorem dX8_fetch_27 : decode cX8_fetch 27 = .ok (.iconst 0, 1) := by decide +kernel
theorem dX8_fetch_28 : decode cX8_fetch 28 = .ok (.iconst 5, 1) := by decide +kernel
theorem dX8_fetch_29 : decode cX8_fetch 29 = .ok (.invokestatic 30, 3) := by decide +kernel
theorem dX8_fetch_32 : decode cX8_fetch 32 = .ok (.aload_n 0, 1) := by decide +kernel
theorem dX8_fetch_33 : decode cX8_fetch 33 = .ok (.getfield 21, 3) := by decide +kernel
theorem dX8_fetch_36 : decode cX8_fetch 36 = .ok (.iload_n 3, 1) := by decide +kernel
theorem dX8_fetch_37 : decode cX8_fetch 37 = .ok (.iconst 5, 1) := by decide +kernel
theorem dX8_fetch_38 : decode cX8_fetch 38 = .ok (.iadd, 1) := by decide +kernel
theorem dX8_fetch_39 : decode cX8_fetch 39 = .ok (.aload_n 2, 1) := by decide +kernel
theorem dX8_fetch_40 : decode cX8_fetch 40 = .ok (.getfield 36, 3) := by decide +kernel
theorem dX8_fetch_43 : decode cX8_fetch 43 = .ok (.iconst 0, 1) := by decide +kernel
theorem dX8_fetch_44 : decode cX8_fetch 44 = .ok (.iconst 5, 1) := by decide +kernel
theorem dX8_fetch_45 : decode cX8_fetch 45 = .ok (.invokestatic 30, 3) := by decide +kernel
theorem dX8_fetch_48 : decode cX8_fetch 48 = .ok (.aload_n 0, 1) := by decide +kernel
theorem dX8_fetch_49 : decode cX8_fetch 49 = .ok (.getfield 21, 3) := by decide +kernel
theorem dX8_fetch_52 : decode cX8_fetch 52 = .ok (.iload_n 3, 1) := by decide +kernel
theorem dX8_fetch_53 : decode cX8_fetch 53 = .ok (.bipush 10, 2) := by decide +kernel
theorem dX8_fetch_55 : decode cX8_fetch 55 = .ok (.iadd, 1) := by decide +kernel
theorem dX8_fetch_56 : decode cX8_fetch 56 = .ok (.aload_n 2, 1) := by decide +kernel
theorem dX8_fetch_57 : decode cX8_fetch 57 = .ok (.getfield 39, 3) := by decide +kernel
theorem dX8_fetch_60 : decode cX8_fetch 60 = .ok (.iconst 0, 1) := by decide +kernel
theorem dX8_fetch_61 : decode cX8_fetch 61 = .ok (.iconst 4, 1) := by decide +kernel
theorem dX8_fetch_62 : decode cX8_fetch 62 = .ok (.invokestatic 30, 3) := by decide +kernel
theorem dX8_fetch_65 : decode cX8_fetch 65 = .ok (.aload_n 2, 1) := by decide +kernel
theorem dX8_fetch_66 : decode cX8_fetch 66 = .ok (.aload_n 0, 1) := by decide +kernel
theorem dX8_fetch_67 : decode cX8_fetch 67 = .ok (.getfield 21, 3) := by decide +kernel
theorem dX8_fetch_70 : decode cX8_fetch 70 = .ok (.iload_n 3, 1) := by decide +kernel
theorem dX8_fetch_71 : decode cX8_fetch 71 = .ok (.bipush 15, 2) := by decide +kernel
theorem dX8_fetch_73 : decode cX8_fetch 73 = .ok (.iadd, 1) := by decide +kernel
theorem dX8_fetch_74 : decode cX8_fetch 74 = .ok (.iconst 1, 1) := by decide +kernel
theorem dX8_fetch_75 : decode cX8_fetch 75 = .ok (.isub, 1) := by decide +kernel
theorem dX8_fetch_76 : decode cX8_fetch 76 = .ok (.iaload, 1) := by decide +kernel
theorem dX8_fetch_77 : decode cX8_fetch 77 = .ok (.putfield 42, 3) := by decide +kernel
theorem dX8_fetch_80 : decode cX8_fetch 80 = .ok (.return_, 1) := by decide +kernel
end
section
theorem dX9_init_0 : decode cX9_init 0 = .ok (.aload_n 0, 1) := by decide +kernel
theorem dX9_init_1 : decode cX9_init 1 = .ok (.invokespecial 3, 3) := by decide +kernel
theorem dX9_init_4 : decode cX9_init 4 = .ok (.aload_n 0, 1) := by decide +kernel
theorem dX9_init_5 : decode cX9_init 5 = .ok (.iconst 5, 1) := by decide +kernel
theorem dX9_init_6 : decode cX9_init 6 = .ok (.newarray .int, 2) := by decide +kernel
theorem dX9_init_8 : decode cX9_init 8 = .ok (.putfield 9, 3) := by decide +kernel
theorem dX9_init_11 : decode cX9_init 11 = .ok (.aload_n 0, 1) := by decide +kernel
theorem dX9_init_12 : decode cX9_init 12 = .ok (.iconst 5, 1) := by decide +kernel
theorem dX9_init_13 : decode cX9_init 13 = .ok (.newarray .int, 2) := by decide +kernel
theorem dX9_init_15 : decode cX9_init 15 = .ok (.putfield 15, 3) := by decide +kernel
theorem dX9_init_18 : decode cX9_init 18 = .ok (.aload_n 0, 1) := by decide +kernel
theorem dX9_init_19 : decode cX9_init 19 = .ok (.iconst 4, 1) := by decide +kernel
theorem dX9_init_20 : decode cX9_init 20 = .ok (.newarray .int, 2) := by decide +kernel
theorem dX9_init_22 : decode cX9_init 22 = .ok (.putfield 18, 3) := by decide +kernel
theorem dX9_init_25 : decode cX9_init 25 = .ok (.aload_n 0, 1) := by decide +kernel
theorem dX9_init_26 : decode cX9_init 26 = .ok (.aload_n 1, 1) := by decide +kernel
theorem dX9_init_27 : decode cX9_init 27 = .ok (.putfield 21, 3) := by decide +kernel
theorem dX9_init_30 : decode cX9_init 30 = .ok (.return_, 1) := by decide +kernel
theorem dX9_copyFrom_0 : decode cX9_copyFrom 0 = .ok (.aload_n 1, 1) := by decide +kernel
theorem dX9_copyFrom_1 : decode cX9_copyFrom 1 = .ok (.getfield 9, 3) := by decide +kernel
theorem dX9_copyFrom_4 : decode cX9_copyFrom 4 = .ok (.iconst 0, 1) := by decide +kernel
theorem dX9_copyFrom_5 : decode cX9_copyFrom 5 = .ok (.aload_n 0, 1) := by decide +kernel
theorem dX9_copyFrom_6 : decode cX9_copyFrom 6 = .ok (.getfield 9, 3) := by decide +kernel
theorem dX9_copyFrom_9 : decode cX9_copyFrom 9 = .ok (.iconst 0, 1) := by decide +kernel
theorem dX9_copyFrom_10 : decode cX9_copyFrom 10 = .ok (.iconst 5, 1) := by decide +kernel
theorem dX9_copyFrom_11 : decode cX9_copyFrom 11 = .ok (.invokestatic 25, 3) := by decide +kernel
theorem dX9_copyFrom_14 : decode cX9_copyFrom 14 = .ok (.aload_n 1, 1) := by decide +kernel
theorem dX9_copyFrom_15 : decode cX9_copyFrom 15 = .ok (.getfield 15, 3) := by decide +kernel
theorem dX9_copyFrom_18 : decode cX9_copyFrom 18 = .ok (.iconst 0, 1) := by decide +kernel
theorem dX9_copyFrom_19 : decode cX9_copyFrom 19 = .ok (.aload_n 0, 1) := by decide +kernel
theorem dX9_copyFrom_20 : decode cX9_copyFrom 20 = .ok (.getfield 15, 3) := by decide +kernel
theorem dX9_copyFrom_23 : decode cX9_copyFrom 23 = .ok (.iconst 0, 1) := by decide +kernel
theorem dX9_copyFrom_24 : decode cX9_copyFrom 24 = .ok (.iconst 5, 1) := by decide +kernel
theorem dX9_copyFrom_25 : decode cX9_copyFrom 25 = .ok (.invokestatic 25, 3) := by decide +kernel
theorem dX9_copyFrom_28 : decode cX9_copyFrom 28 = .ok (.aload_n 1, 1) := by decide +kernel
theorem dX9_copyFrom_29 : decode cX9_copyFrom 29 = .ok (.getfield 18, 3) := by decide +kernel
theorem dX9_copyFrom_32 : decode cX9_copyFrom 32 = .ok (.iconst 0, 1) := by decide +kernel
theorem dX9_copyFrom_33 : decode cX9_copyFrom 33 = .ok (.aload_n 0, 1) := by decide +kernel
theorem dX9_copyFrom_34 : decode cX9_copyFrom 34 = .ok (.getfield 18, 3) := by decide +kernel
theorem dX9_copyFrom_37 : decode cX9_copyFrom 37 = .ok (.iconst 0, 1) := by decide +kernel
theorem dX9_copyFrom_38 : decode cX9_copyFrom 38 = .ok (.iconst 4, 1) := by decide +kernel
theorem dX9_copyFrom_39 : decode cX9_copyFrom 39 = .ok (.invokestatic 25, 3) := by decide +kernel
theorem dX9_copyFrom_42 : decode cX9_copyFrom 42 = .ok (.aload_n 0, 1) := by decide +kernel
theorem dX9_copyFrom_43 : decode cX9_copyFrom 43 = .ok (.aload_n 1, 1) := by decide +kernel
theorem dX9_copyFrom_44 : decode cX9_copyFrom 44 = .ok (.getfield 31, 3) := by decide +kernel
theorem dX9_copyFrom_47 : decode cX9_copyFrom 47 = .ok (.putfield 31, 3) := by decide +kernel
theorem dX9_copyFrom_50 : decode cX9_copyFrom 50 = .ok (.return_, 1) := by decide +kernel
theorem dX9_openAnew_0 : decode cX9_openAnew 0 = .ok (.iconst 0, 1) := by decide +kernel
theorem dX9_openAnew_1 : decode cX9_openAnew 1 = .ok (.istore_n 1, 1) := by decide +kernel
theorem dX9_openAnew_2 : decode cX9_openAnew 2 = .ok (.iload_n 1, 1) := by decide +kernel
theorem dX9_openAnew_3 : decode cX9_openAnew 3 = .ok (.iconst 5, 1) := by decide +kernel
theorem dX9_openAnew_4 : decode cX9_openAnew 4 = .ok (.if_icmp .ge 31, 3) := by decide +kernel
theorem dX9_openAnew_7 : decode cX9_openAnew 7 = .ok (.aload_n 0, 1) := by decide +kernel
theorem dX9_openAnew_8 : decode cX9_openAnew 8 = .ok (.getfield 9, 3) := by decide +kernel
theorem dX9_openAnew_11 : decode cX9_openAnew 11 = .ok (.iload_n 1, 1) := by decide +kernel
theorem dX9_openAnew_12 : decode cX9_openAnew 12 = .ok (.aload_n 0, 1) := by decide +kernel
theorem dX9_openAnew_13 : decode cX9_openAnew 13 = .ok (.getfield 21, 3) := by decide +kernel
theorem dX9_openAnew_16 : decode cX9_openAnew 16 = .ok (.getfield 35, 3) := by decide +kernel
theorem dX9_openAnew_19 : decode cX9_openAnew 19 = .ok (.iload_n 1, 1) := by decide +kernel
theorem dX9_openAnew_20 : decode cX9_openAnew 20 = .ok (.iaload, 1) := by decide +kernel
theorem dX9_openAnew_21 : decode cX9_openAnew 21 = .ok (.iastore, 1) := by decide +kernel
theorem dX9_openAnew_22 : decode cX9_openAnew 22 = .ok (.aload_n 0, 1) := by decide +kernel
theorem dX9_openAnew_23 : decode cX9_openAnew 23 = .ok (.getfield 15, 3) := by decide +kernel
theorem dX9_openAnew_26 : decode cX9_openAnew 26 = .ok (.iload_n 1, 1) := by decide +kernel
theorem dX9_openAnew_27 : decode cX9_openAnew 27 = .ok (.iconst 0, 1) := by decide +kernel
theorem dX9_openAnew_28 : decode cX9_openAnew 28 = .ok (.iastore, 1) := by decide +kernel
theorem dX9_openAnew_29 : decode cX9_openAnew 29 = .ok (.iinc 1 1, 3) := by decide +kernel
theorem dX9_openAnew_32 : decode cX9_openAnew 32 = .ok (.goto (-30), 3) := by decide +kernel
theorem dX9_openAnew_35 : decode cX9_openAnew 35 = .ok (.iconst 0, 1) := by decide +kernel
theorem dX9_openAnew_36 : decode cX9_openAnew 36 = .ok (.istore_n 1, 1) := by decide +kernel
theorem dX9_openAnew_37 : decode cX9_openAnew 37 = .ok (.iload_n 1, 1) := by decide +kernel
theorem dX9_openAnew_38 : decode cX9_openAnew 38 = .ok (.iconst 4, 1) := by decide +kernel
theorem dX9_openAnew_39 : decode cX9_openAnew 39 = .ok (.if_icmp .ge 24, 3) := by decide +kernel
theorem dX9_openAnew_42 : decode cX9_openAnew 42 = .ok (.aload_n 0, 1) := by decide +kernel
theorem dX9_openAnew_43 : decode cX9_openAnew 43 = .ok (.getfield 18, 3) := by decide +kernel
theorem dX9_openAnew_46 : decode cX9_openAnew 46 = .ok (.iload_n 1, 1) := by decide +kernel
theorem dX9_openAnew_47 : decode cX9_openAnew 47 = .ok (.aload_n 0, 1) := by decide +kernel
theorem dX9_openAnew_48 : decode cX9_openAnew 48 = .ok (.getfield 21, 3) := by decide +kernel
theorem dX9_openAnew_51 : decode cX9_openAnew 51 = .ok (.getfield 40, 3) := by decide +kernel
theorem dX9_openAnew_54 : decode cX9_openAnew 54 = .ok (.iload_n 1, 1) := by decide +kernel
theorem dX9_openAnew_55 : decode cX9_openAnew 55 = .ok (.iaload, 1) := by decide +kernel
theorem dX9_openAnew_56 : decode cX9_openAnew 56 = .ok (.iastore, 1) := by decide +kernel
theorem dX9_openAnew_57 : decode cX9_openAnew 57 = .ok (.iinc 1 1, 3) := by decide +kernel
theorem dX9_openAnew_60 : decode cX9_openAnew 60 = .ok (.goto (-23), 3) := by decide +kernel
theorem dX9_openAnew_63 : decode cX9_openAnew 63 = .ok (.aload_n 0, 1) := by decide +kernel
theorem dX9_openAnew_64 : decode cX9_openAnew 64 = .ok (.iconst 0, 1) := by decide +kernel
theorem dX9_openAnew_65 : decode cX9_openAnew 65 = .ok (.putfield 31, 3) := by decide +kernel
theorem dX9_openAnew_68 : decode cX9_openAnew 68 = .ok (.return_, 1) := by decide +kernel
theorem dX9_taxOf_0 : decode cX9_taxOf 0 = .ok (.aload_n 0, 1) := by decide +kernel
theorem dX9_taxOf_1 : decode cX9_taxOf 1 = .ok (.getfield 9, 3) := by decide +kernel
theorem dX9_taxOf_4 : decode cX9_taxOf 4 = .ok (.iload_n 1, 1) := by decide +kernel
theorem dX9_taxOf_5 : decode cX9_taxOf 5 = .ok (.iaload, 1) := by decide +kernel
theorem dX9_taxOf_6 : decode cX9_taxOf 6 = .ok (.istore_n 2, 1) := by decide +kernel
theorem dX9_taxOf_7 : decode cX9_taxOf 7 = .ok (.aload_n 0, 1) := by decide +kernel
theorem dX9_taxOf_8 : decode cX9_taxOf 8 = .ok (.getfield 15, 3) := by decide +kernel
theorem dX9_taxOf_11 : decode cX9_taxOf 11 = .ok (.iload_n 1, 1) := by decide +kernel
theorem dX9_taxOf_12 : decode cX9_taxOf 12 = .ok (.iaload, 1) := by decide +kernel
theorem dX9_taxOf_13 : decode cX9_taxOf 13 = .ok (.iconst 3, 1) := by decide +kernel
theorem dX9_taxOf_14 : decode cX9_taxOf 14 = .ok (.if_icmp .lt 7, 3) := by decide +kernel
theorem dX9_taxOf_17 : decode cX9_taxOf 17 = .ok (.iconst 0, 1) := by decide +kernel
theorem dX9_taxOf_18 : decode cX9_taxOf 18 = .ok (.goto 4, 3) := by decide +kernel
theorem dX9_taxOf_21 : decode cX9_taxOf 21 = .ok (.iload_n 2, 1) := by decide +kernel
theorem dX9_taxOf_22 : decode cX9_taxOf 22 = .ok (.istore_n 3, 1) := by decide +kernel
theorem dX9_taxOf_23 : decode cX9_taxOf 23 = .ok (.aload_n 0, 1) := by decide +kernel
theorem dX9_taxOf_24 : decode cX9_taxOf 24 = .ok (.getfield 21, 3) := by decide +kernel
theorem dX9_taxOf_27 : decode cX9_taxOf 27 = .ok (.getfield 43, 3) := by decide +kernel
theorem dX9_taxOf_30 : decode cX9_taxOf 30 = .ok (.iload_n 1, 1) := by decide +kernel
theorem dX9_taxOf_31 : decode cX9_taxOf 31 = .ok (.iaload, 1) := by decide +kernel
theorem dX9_taxOf_32 : decode cX9_taxOf 32 = .ok (.iconst 3, 1) := by decide +kernel
theorem dX9_taxOf_33 : decode cX9_taxOf 33 = .ok (.if_icmp .ne 11, 3) := by decide +kernel
theorem dX9_taxOf_36 : decode cX9_taxOf 36 = .ok (.iconst 0, 1) := by decide +kernel
theorem dX9_taxOf_37 : decode cX9_taxOf 37 = .ok (.iload_n 3, 1) := by decide +kernel
theorem dX9_taxOf_38 : decode cX9_taxOf 38 = .ok (.iconst 2, 1) := by decide +kernel
theorem dX9_taxOf_39 : decode cX9_taxOf 39 = .ok (.isub, 1) := by decide +kernel
theorem dX9_taxOf_40 : decode cX9_taxOf 40 = .ok (.invokestatic 46, 3) := by decide +kernel
theorem dX9_taxOf_43 : decode cX9_taxOf 43 = .ok (.istore_n 3, 1) := by decide +kernel
theorem dX9_taxOf_44 : decode cX9_taxOf 44 = .ok (.iconst 2, 1) := by decide +kernel
theorem dX9_taxOf_45 : decode cX9_taxOf 45 = .ok (.iload_n 2, 1) := by decide +kernel
theorem dX9_taxOf_46 : decode cX9_taxOf 46 = .ok (.imul, 1) := by decide +kernel
theorem dX9_taxOf_47 : decode cX9_taxOf 47 = .ok (.aload_n 0, 1) := by decide +kernel
theorem dX9_taxOf_48 : decode cX9_taxOf 48 = .ok (.getfield 21, 3) := by decide +kernel
theorem dX9_taxOf_51 : decode cX9_taxOf 51 = .ok (.getfield 52, 3) := by decide +kernel
theorem dX9_taxOf_54 : decode cX9_taxOf 54 = .ok (.iload_n 1, 1) := by decide +kernel
theorem dX9_taxOf_55 : decode cX9_taxOf 55 = .ok (.iaload, 1) := by decide +kernel
theorem dX9_taxOf_56 : decode cX9_taxOf 56 = .ok (.if_icmp .lt 7, 3) := by decide +kernel
theorem dX9_taxOf_59 : decode cX9_taxOf 59 = .ok (.iconst 1, 1) := by decide +kernel
theorem dX9_taxOf_60 : decode cX9_taxOf 60 = .ok (.goto 4, 3) := by decide +kernel
theorem dX9_taxOf_63 : decode cX9_taxOf 63 = .ok (.iconst 0, 1) := by decide +kernel
theorem dX9_taxOf_64 : decode cX9_taxOf 64 = .ok (.istore 4, 2) := by decide +kernel
theorem dX9_taxOf_66 : decode cX9_taxOf 66 = .ok (.iload_n 3, 1) := by decide +kernel
theorem dX9_taxOf_67 : decode cX9_taxOf 67 = .ok (.ifCond .le 14, 3) := by decide +kernel
theorem dX9_taxOf_70 : decode cX9_taxOf 70 = .ok (.iload 4, 2) := by decide +kernel
theorem dX9_taxOf_72 : decode cX9_taxOf 72 = .ok (.ifCond .eq 9, 3) := by decide +kernel
theorem dX9_taxOf_75 : decode cX9_taxOf 75 = .ok (.iload_n 3, 1) := by decide +kernel
theorem dX9_taxOf_76 : decode cX9_taxOf 76 = .ok (.iconst 2, 1) := by decide +kernel
theorem dX9_taxOf_77 : decode cX9_taxOf 77 = .ok (.iadd, 1) := by decide +kernel
theorem dX9_taxOf_78 : decode cX9_taxOf 78 = .ok (.goto 4, 3) := by decide +kernel
theorem dX9_taxOf_81 : decode cX9_taxOf 81 = .ok (.iload_n 3, 1) := by decide +kernel
theorem dX9_taxOf_82 : decode cX9_taxOf 82 = .ok (.ireturn, 1) := by decide +kernel
theorem dX9_taxes_0 : decode cX9_taxes 0 = .ok (.iconst 0, 1) := by decide +kernel
theorem dX9_taxes_1 : decode cX9_taxes 1 = .ok (.istore_n 1, 1) := by decide +kernel
theorem dX9_taxes_2 : decode cX9_taxes 2 = .ok (.iconst 0, 1) := by decide +kernel
theorem dX9_taxes_3 : decode cX9_taxes 3 = .ok (.istore_n 2, 1) := by decide +kernel
theorem dX9_taxes_4 : decode cX9_taxes 4 = .ok (.iload_n 2, 1) := by decide +kernel
theorem dX9_taxes_5 : decode cX9_taxes 5 = .ok (.iconst 5, 1) := by decide +kernel
theorem dX9_taxes_6 : decode cX9_taxes 6 = .ok (.if_icmp .ge 17, 3) := by decide +kernel
theorem dX9_taxes_9 : decode cX9_taxes 9 = .ok (.iload_n 1, 1) := by decide +kernel
theorem dX9_taxes_10 : decode cX9_taxes 10 = .ok (.aload_n 0, 1) := by decide +kernel
theorem dX9_taxes_11 : decode cX9_taxes 11 = .ok (.iload_n 2, 1) := by decide +kernel
theorem dX9_taxes_12 : decode cX9_taxes 12 = .ok (.invokevirtual 55, 3) := by decide +kernel
theorem dX9_taxes_15 : decode cX9_taxes 15 = .ok (.iadd, 1) := by decide +kernel
theorem dX9_taxes_16 : decode cX9_taxes 16 = .ok (.istore_n 1, 1) := by decide +kernel
theorem dX9_taxes_17 : decode cX9_taxes 17 = .ok (.iinc 2 1, 3) := by decide +kernel
theorem dX9_taxes_20 : decode cX9_taxes 20 = .ok (.goto (-16), 3) := by decide +kernel
theorem dX9_taxes_23 : decode cX9_taxes 23 = .ok (.iload_n 1, 1) := by decide +kernel
theorem dX9_taxes_24 : decode cX9_taxes 24 = .ok (.ireturn, 1) := by decide +kernel
theorem dX9_thirstOfAll_0 : decode cX9_thirstOfAll 0 = .ok (.iconst 0, 1) := by decide +kernel
theorem dX9_thirstOfAll_1 : decode cX9_thirstOfAll 1 = .ok (.istore_n 1, 1) := by decide +kernel
theorem dX9_thirstOfAll_2 : decode cX9_thirstOfAll 2 = .ok (.iconst 0, 1) := by decide +kernel
theorem dX9_thirstOfAll_3 : decode cX9_thirstOfAll 3 = .ok (.istore_n 2, 1) := by decide +kernel
theorem dX9_thirstOfAll_4 : decode cX9_thirstOfAll 4 = .ok (.iload_n 2, 1) := by decide +kernel
theorem dX9_thirstOfAll_5 : decode cX9_thirstOfAll 5 = .ok (.iconst 4, 1) := by decide +kernel
theorem dX9_thirstOfAll_6 : decode cX9_thirstOfAll 6 = .ok (.if_icmp .ge 18, 3) := by decide +kernel
theorem dX9_thirstOfAll_9 : decode cX9_thirstOfAll 9 = .ok (.iload_n 1, 1) := by decide +kernel
theorem dX9_thirstOfAll_10 : decode cX9_thirstOfAll 10 = .ok (.aload_n 0, 1) := by decide +kernel
theorem dX9_thirstOfAll_11 : decode cX9_thirstOfAll 11 = .ok (.getfield 18, 3) := by decide +kernel
theorem dX9_thirstOfAll_14 : decode cX9_thirstOfAll 14 = .ok (.iload_n 2, 1) := by decide +kernel
theorem dX9_thirstOfAll_15 : decode cX9_thirstOfAll 15 = .ok (.iaload, 1) := by decide +kernel
theorem dX9_thirstOfAll_16 : decode cX9_thirstOfAll 16 = .ok (.iadd, 1) := by decide +kernel
theorem dX9_thirstOfAll_17 : decode cX9_thirstOfAll 17 = .ok (.istore_n 1, 1) := by decide +kernel
theorem dX9_thirstOfAll_18 : decode cX9_thirstOfAll 18 = .ok (.iinc 2 1, 3) := by decide +kernel
theorem dX9_thirstOfAll_21 : decode cX9_thirstOfAll 21 = .ok (.goto (-17), 3) := by decide +kernel
theorem dX9_thirstOfAll_24 : decode cX9_thirstOfAll 24 = .ok (.iload_n 1, 1) := by decide +kernel
theorem dX9_thirstOfAll_25 : decode cX9_thirstOfAll 25 = .ok (.ireturn, 1) := by decide +kernel
theorem dX9_roomIn_0 : decode cX9_roomIn 0 = .ok (.aload_n 0, 1) := by decide +kernel
theorem dX9_roomIn_1 : decode cX9_roomIn 1 = .ok (.getfield 21, 3) := by decide +kernel
theorem dX9_roomIn_4 : decode cX9_roomIn 4 = .ok (.getfield 52, 3) := by decide +kernel
theorem dX9_roomIn_7 : decode cX9_roomIn 7 = .ok (.iload_n 1, 1) := by decide +kernel
theorem dX9_roomIn_8 : decode cX9_roomIn 8 = .ok (.iaload, 1) := by decide +kernel
theorem dX9_roomIn_9 : decode cX9_roomIn 9 = .ok (.aload_n 0, 1) := by decide +kernel
theorem dX9_roomIn_10 : decode cX9_roomIn 10 = .ok (.getfield 9, 3) := by decide +kernel
theorem dX9_roomIn_13 : decode cX9_roomIn 13 = .ok (.iload_n 1, 1) := by decide +kernel
theorem dX9_roomIn_14 : decode cX9_roomIn 14 = .ok (.iaload, 1) := by decide +kernel
theorem dX9_roomIn_15 : decode cX9_roomIn 15 = .ok (.isub, 1) := by decide +kernel
theorem dX9_roomIn_16 : decode cX9_roomIn 16 = .ok (.ireturn, 1) := by decide +kernel
theorem dX9_firstGulp_0 : decode cX9_firstGulp 0 = .ok (.iconst 0, 1) := by decide +kernel
theorem dX9_firstGulp_1 : decode cX9_firstGulp 1 = .ok (.istore_n 2, 1) := by decide +kernel
theorem dX9_firstGulp_2 : decode cX9_firstGulp 2 = .ok (.iload_n 2, 1) := by decide +kernel
theorem dX9_firstGulp_3 : decode cX9_firstGulp 3 = .ok (.iconst 5, 1) := by decide +kernel
theorem dX9_firstGulp_4 : decode cX9_firstGulp 4 = .ok (.if_icmp .ge 46, 3) := by decide +kernel
theorem dX9_firstGulp_7 : decode cX9_firstGulp 7 = .ok (.aload_n 0, 1) := by decide +kernel
theorem dX9_firstGulp_8 : decode cX9_firstGulp 8 = .ok (.getfield 21, 3) := by decide +kernel
theorem dX9_firstGulp_11 : decode cX9_firstGulp 11 = .ok (.iload_n 1, 1) := by decide +kernel
theorem dX9_firstGulp_12 : decode cX9_firstGulp 12 = .ok (.iload_n 2, 1) := by decide +kernel
theorem dX9_firstGulp_13 : decode cX9_firstGulp 13 = .ok (.invokevirtual 59, 3) := by decide +kernel
theorem dX9_firstGulp_16 : decode cX9_firstGulp 16 = .ok (.ifCond .eq 28, 3) := by decide +kernel
theorem dX9_firstGulp_19 : decode cX9_firstGulp 19 = .ok (.aload_n 0, 1) := by decide +kernel
theorem dX9_firstGulp_20 : decode cX9_firstGulp 20 = .ok (.getfield 21, 3) := by decide +kernel
theorem dX9_firstGulp_23 : decode cX9_firstGulp 23 = .ok (.getfield 63, 3) := by decide +kernel
theorem dX9_firstGulp_26 : decode cX9_firstGulp 26 = .ok (.iload_n 1, 1) := by decide +kernel
theorem dX9_firstGulp_27 : decode cX9_firstGulp 27 = .ok (.iaload, 1) := by decide +kernel
theorem dX9_firstGulp_28 : decode cX9_firstGulp 28 = .ok (.aload_n 0, 1) := by decide +kernel
theorem dX9_firstGulp_29 : decode cX9_firstGulp 29 = .ok (.getfield 18, 3) := by decide +kernel
theorem dX9_firstGulp_32 : decode cX9_firstGulp 32 = .ok (.iload_n 1, 1) := by decide +kernel
theorem dX9_firstGulp_33 : decode cX9_firstGulp 33 = .ok (.iaload, 1) := by decide +kernel
theorem dX9_firstGulp_34 : decode cX9_firstGulp 34 = .ok (.aload_n 0, 1) := by decide +kernel
theorem dX9_firstGulp_35 : decode cX9_firstGulp 35 = .ok (.getfield 9, 3) := by decide +kernel
theorem dX9_firstGulp_38 : decode cX9_firstGulp 38 = .ok (.iload_n 2, 1) := by decide +kernel
theorem dX9_firstGulp_39 : decode cX9_firstGulp 39 = .ok (.iaload, 1) := by decide +kernel
theorem dX9_firstGulp_40 : decode cX9_firstGulp 40 = .ok (.invokestatic 66, 3) := by decide +kernel
theorem dX9_firstGulp_43 : decode cX9_firstGulp 43 = .ok (.ireturn, 1) := by decide +kernel
theorem dX9_firstGulp_44 : decode cX9_firstGulp 44 = .ok (.iinc 2 1, 3) := by decide +kernel
theorem dX9_firstGulp_47 : decode cX9_firstGulp 47 = .ok (.goto (-45), 3) := by decide +kernel
theorem dX9_firstGulp_50 : decode cX9_firstGulp 50 = .ok (.iconst 0, 1) := by decide +kernel
theorem dX9_firstGulp_51 : decode cX9_firstGulp 51 = .ok (.ireturn, 1) := by decide +kernel
theorem dX9_pourInto_0 : decode cX9_pourInto 0 = .ok (.aload_n 0, 1) := by decide +kernel
theorem dX9_pourInto_1 : decode cX9_pourInto 1 = .ok (.getfield 21, 3) := by decide +kernel
theorem dX9_pourInto_4 : decode cX9_pourInto 4 = .ok (.iload_n 1, 1) := by decide +kernel
theorem dX9_pourInto_5 : decode cX9_pourInto 5 = .ok (.invokevirtual 70, 3) := by decide +kernel
theorem dX9_pourInto_8 : decode cX9_pourInto 8 = .ok (.ifCond .ne 5, 3) := by decide +kernel
theorem dX9_pourInto_11 : decode cX9_pourInto 11 = .ok (.iconst (-1), 1) := by decide +kernel
theorem dX9_pourInto_12 : decode cX9_pourInto 12 = .ok (.ireturn, 1) := by decide +kernel
theorem dX9_pourInto_13 : decode cX9_pourInto 13 = .ok (.iload_n 2, 1) := by decide +kernel
theorem dX9_pourInto_14 : decode cX9_pourInto 14 = .ok (.iconst 1, 1) := by decide +kernel
theorem dX9_pourInto_15 : decode cX9_pourInto 15 = .ok (.if_icmp .lt 9, 3) := by decide +kernel
theorem dX9_pourInto_18 : decode cX9_pourInto 18 = .ok (.iload_n 2, 1) := by decide +kernel
theorem dX9_pourInto_19 : decode cX9_pourInto 19 = .ok (.bipush 9, 2) := by decide +kernel
theorem dX9_pourInto_21 : decode cX9_pourInto 21 = .ok (.if_icmp .le 6, 3) := by decide +kernel
theorem dX9_pourInto_24 : decode cX9_pourInto 24 = .ok (.bipush (-2), 2) := by decide +kernel
theorem dX9_pourInto_26 : decode cX9_pourInto 26 = .ok (.ireturn, 1) := by decide +kernel
theorem dX9_pourInto_27 : decode cX9_pourInto 27 = .ok (.iload_n 2, 1) := by decide +kernel
theorem dX9_pourInto_28 : decode cX9_pourInto 28 = .ok (.aload_n 0, 1) := by decide +kernel
theorem dX9_pourInto_29 : decode cX9_pourInto 29 = .ok (.iload_n 1, 1) := by decide +kernel
theorem dX9_pourInto_30 : decode cX9_pourInto 30 = .ok (.invokevirtual 74, 3) := by decide +kernel
theorem dX9_pourInto_33 : decode cX9_pourInto 33 = .ok (.invokestatic 77, 3) := by decide +kernel
theorem dX9_pourInto_36 : decode cX9_pourInto 36 = .ok (.istore_n 3, 1) := by decide +kernel
theorem dX9_pourInto_37 : decode cX9_pourInto 37 = .ok (.iload_n 3, 1) := by decide +kernel
theorem dX9_pourInto_38 : decode cX9_pourInto 38 = .ok (.ifCond .gt 6, 3) := by decide +kernel
theorem dX9_pourInto_41 : decode cX9_pourInto 41 = .ok (.bipush (-3), 2) := by decide +kernel
theorem dX9_pourInto_43 : decode cX9_pourInto 43 = .ok (.ireturn, 1) := by decide +kernel
theorem dX9_pourInto_44 : decode cX9_pourInto 44 = .ok (.aload_n 0, 1) := by decide +kernel
theorem dX9_pourInto_45 : decode cX9_pourInto 45 = .ok (.getfield 9, 3) := by decide +kernel
theorem dX9_pourInto_48 : decode cX9_pourInto 48 = .ok (.iload_n 1, 1) := by decide +kernel
theorem dX9_pourInto_49 : decode cX9_pourInto 49 = .ok (.dup2, 1) := by decide +kernel
theorem dX9_pourInto_50 : decode cX9_pourInto 50 = .ok (.iaload, 1) := by decide +kernel
theorem dX9_pourInto_51 : decode cX9_pourInto 51 = .ok (.iload_n 3, 1) := by decide +kernel
theorem dX9_pourInto_52 : decode cX9_pourInto 52 = .ok (.iadd, 1) := by decide +kernel
theorem dX9_pourInto_53 : decode cX9_pourInto 53 = .ok (.iastore, 1) := by decide +kernel
theorem dX9_pourInto_54 : decode cX9_pourInto 54 = .ok (.aload_n 0, 1) := by decide +kernel
theorem dX9_pourInto_55 : decode cX9_pourInto 55 = .ok (.getfield 15, 3) := by decide +kernel
theorem dX9_pourInto_58 : decode cX9_pourInto 58 = .ok (.iload_n 1, 1) := by decide +kernel
theorem dX9_pourInto_59 : decode cX9_pourInto 59 = .ok (.iconst 0, 1) := by decide +kernel
theorem dX9_pourInto_60 : decode cX9_pourInto 60 = .ok (.iastore, 1) := by decide +kernel
theorem dX9_pourInto_61 : decode cX9_pourInto 61 = .ok (.iload_n 3, 1) := by decide +kernel
theorem dX9_pourInto_62 : decode cX9_pourInto 62 = .ok (.ireturn, 1) := by decide +kernel
theorem dX9_drinkAt_0 : decode cX9_drinkAt 0 = .ok (.aload_n 0, 1) := by decide +kernel
theorem dX9_drinkAt_1 : decode cX9_drinkAt 1 = .ok (.getfield 21, 3) := by decide +kernel
theorem dX9_drinkAt_4 : decode cX9_drinkAt 4 = .ok (.iload_n 1, 1) := by decide +kernel
theorem dX9_drinkAt_5 : decode cX9_drinkAt 5 = .ok (.invokevirtual 80, 3) := by decide +kernel
theorem dX9_drinkAt_8 : decode cX9_drinkAt 8 = .ok (.ifCond .eq 14, 3) := by decide +kernel
theorem dX9_drinkAt_11 : decode cX9_drinkAt 11 = .ok (.aload_n 0, 1) := by decide +kernel
theorem dX9_drinkAt_12 : decode cX9_drinkAt 12 = .ok (.getfield 21, 3) := by decide +kernel
theorem dX9_drinkAt_15 : decode cX9_drinkAt 15 = .ok (.iload_n 2, 1) := by decide +kernel
theorem dX9_drinkAt_16 : decode cX9_drinkAt 16 = .ok (.invokevirtual 70, 3) := by decide +kernel
theorem dX9_drinkAt_19 : decode cX9_drinkAt 19 = .ok (.ifCond .ne 5, 3) := by decide +kernel
theorem dX9_drinkAt_22 : decode cX9_drinkAt 22 = .ok (.iconst (-1), 1) := by decide +kernel
theorem dX9_drinkAt_23 : decode cX9_drinkAt 23 = .ok (.ireturn, 1) := by decide +kernel
theorem dX9_drinkAt_24 : decode cX9_drinkAt 24 = .ok (.aload_n 0, 1) := by decide +kernel
theorem dX9_drinkAt_25 : decode cX9_drinkAt 25 = .ok (.getfield 21, 3) := by decide +kernel
theorem dX9_drinkAt_28 : decode cX9_drinkAt 28 = .ok (.iload_n 1, 1) := by decide +kernel
theorem dX9_drinkAt_29 : decode cX9_drinkAt 29 = .ok (.iload_n 2, 1) := by decide +kernel
theorem dX9_drinkAt_30 : decode cX9_drinkAt 30 = .ok (.invokevirtual 59, 3) := by decide +kernel
theorem dX9_drinkAt_33 : decode cX9_drinkAt 33 = .ok (.ifCond .eq 12, 3) := by decide +kernel
theorem dX9_drinkAt_36 : decode cX9_drinkAt 36 = .ok (.aload_n 0, 1) := by decide +kernel
theorem dX9_drinkAt_37 : decode cX9_drinkAt 37 = .ok (.iload_n 1, 1) := by decide +kernel
theorem dX9_drinkAt_38 : decode cX9_drinkAt 38 = .ok (.iload_n 2, 1) := by decide +kernel
theorem dX9_drinkAt_39 : decode cX9_drinkAt 39 = .ok (.invokevirtual 83, 3) := by decide +kernel
theorem dX9_drinkAt_42 : decode cX9_drinkAt 42 = .ok (.goto 5, 3) := by decide +kernel
theorem dX9_drinkAt_45 : decode cX9_drinkAt 45 = .ok (.bipush (-3), 2) := by decide +kernel
theorem dX9_drinkAt_47 : decode cX9_drinkAt 47 = .ok (.ireturn, 1) := by decide +kernel
theorem dX9_tipOver_0 : decode cX9_tipOver 0 = .ok (.aload_n 0, 1) := by decide +kernel
theorem dX9_tipOver_1 : decode cX9_tipOver 1 = .ok (.getfield 21, 3) := by decide +kernel
theorem dX9_tipOver_4 : decode cX9_tipOver 4 = .ok (.iload_n 1, 1) := by decide +kernel
theorem dX9_tipOver_5 : decode cX9_tipOver 5 = .ok (.invokevirtual 70, 3) := by decide +kernel
theorem dX9_tipOver_8 : decode cX9_tipOver 8 = .ok (.ifCond .eq 14, 3) := by decide +kernel
theorem dX9_tipOver_11 : decode cX9_tipOver 11 = .ok (.aload_n 0, 1) := by decide +kernel
theorem dX9_tipOver_12 : decode cX9_tipOver 12 = .ok (.getfield 21, 3) := by decide +kernel
theorem dX9_tipOver_15 : decode cX9_tipOver 15 = .ok (.iload_n 2, 1) := by decide +kernel
theorem dX9_tipOver_16 : decode cX9_tipOver 16 = .ok (.invokevirtual 70, 3) := by decide +kernel
theorem dX9_tipOver_19 : decode cX9_tipOver 19 = .ok (.ifCond .ne 5, 3) := by decide +kernel
theorem dX9_tipOver_22 : decode cX9_tipOver 22 = .ok (.iconst (-1), 1) := by decide +kernel
theorem dX9_tipOver_23 : decode cX9_tipOver 23 = .ok (.ireturn, 1) := by decide +kernel
theorem dX9_tipOver_24 : decode cX9_tipOver 24 = .ok (.iload_n 1, 1) := by decide +kernel
theorem dX9_tipOver_25 : decode cX9_tipOver 25 = .ok (.iload_n 2, 1) := by decide +kernel
theorem dX9_tipOver_26 : decode cX9_tipOver 26 = .ok (.if_icmp .ne 6, 3) := by decide +kernel
theorem dX9_tipOver_29 : decode cX9_tipOver 29 = .ok (.bipush (-2), 2) := by decide +kernel
theorem dX9_tipOver_31 : decode cX9_tipOver 31 = .ok (.ireturn, 1) := by decide +kernel
theorem dX9_tipOver_32 : decode cX9_tipOver 32 = .ok (.aload_n 0, 1) := by decide +kernel
theorem dX9_tipOver_33 : decode cX9_tipOver 33 = .ok (.getfield 9, 3) := by decide +kernel
theorem dX9_tipOver_36 : decode cX9_tipOver 36 = .ok (.iload_n 1, 1) := by decide +kernel
theorem dX9_tipOver_37 : decode cX9_tipOver 37 = .ok (.iaload, 1) := by decide +kernel
theorem dX9_tipOver_38 : decode cX9_tipOver 38 = .ok (.aload_n 0, 1) := by decide +kernel
theorem dX9_tipOver_39 : decode cX9_tipOver 39 = .ok (.iload_n 2, 1) := by decide +kernel
theorem dX9_tipOver_40 : decode cX9_tipOver 40 = .ok (.invokevirtual 74, 3) := by decide +kernel
theorem dX9_tipOver_43 : decode cX9_tipOver 43 = .ok (.invokestatic 77, 3) := by decide +kernel
theorem dX9_tipOver_46 : decode cX9_tipOver 46 = .ok (.istore_n 3, 1) := by decide +kernel
theorem dX9_tipOver_47 : decode cX9_tipOver 47 = .ok (.iload_n 3, 1) := by decide +kernel
theorem dX9_tipOver_48 : decode cX9_tipOver 48 = .ok (.ifCond .gt 6, 3) := by decide +kernel
theorem dX9_tipOver_51 : decode cX9_tipOver 51 = .ok (.bipush (-3), 2) := by decide +kernel
theorem dX9_tipOver_53 : decode cX9_tipOver 53 = .ok (.ireturn, 1) := by decide +kernel
theorem dX9_tipOver_54 : decode cX9_tipOver 54 = .ok (.aload_n 0, 1) := by decide +kernel
theorem dX9_tipOver_55 : decode cX9_tipOver 55 = .ok (.getfield 9, 3) := by decide +kernel
theorem dX9_tipOver_58 : decode cX9_tipOver 58 = .ok (.iload_n 1, 1) := by decide +kernel
theorem dX9_tipOver_59 : decode cX9_tipOver 59 = .ok (.dup2, 1) := by decide +kernel
theorem dX9_tipOver_60 : decode cX9_tipOver 60 = .ok (.iaload, 1) := by decide +kernel
theorem dX9_tipOver_61 : decode cX9_tipOver 61 = .ok (.iload_n 3, 1) := by decide +kernel
theorem dX9_tipOver_62 : decode cX9_tipOver 62 = .ok (.isub, 1) := by decide +kernel
theorem dX9_tipOver_63 : decode cX9_tipOver 63 = .ok (.iastore, 1) := by decide +kernel
theorem dX9_tipOver_64 : decode cX9_tipOver 64 = .ok (.aload_n 0, 1) := by decide +kernel
theorem dX9_tipOver_65 : decode cX9_tipOver 65 = .ok (.getfield 9, 3) := by decide +kernel
theorem dX9_tipOver_68 : decode cX9_tipOver 68 = .ok (.iload_n 2, 1) := by decide +kernel
theorem dX9_tipOver_69 : decode cX9_tipOver 69 = .ok (.dup2, 1) := by decide +kernel
theorem dX9_tipOver_70 : decode cX9_tipOver 70 = .ok (.iaload, 1) := by decide +kernel
theorem dX9_tipOver_71 : decode cX9_tipOver 71 = .ok (.iload_n 3, 1) := by decide +kernel
theorem dX9_tipOver_72 : decode cX9_tipOver 72 = .ok (.iadd, 1) := by decide +kernel
theorem dX9_tipOver_73 : decode cX9_tipOver 73 = .ok (.iastore, 1) := by decide +kernel
theorem dX9_tipOver_74 : decode cX9_tipOver 74 = .ok (.aload_n 0, 1) := by decide +kernel
theorem dX9_tipOver_75 : decode cX9_tipOver 75 = .ok (.getfield 15, 3) := by decide +kernel
theorem dX9_tipOver_78 : decode cX9_tipOver 78 = .ok (.iload_n 2, 1) := by decide +kernel
theorem dX9_tipOver_79 : decode cX9_tipOver 79 = .ok (.aload_n 0, 1) := by decide +kernel
theorem dX9_tipOver_80 : decode cX9_tipOver 80 = .ok (.getfield 15, 3) := by decide +kernel
theorem dX9_tipOver_83 : decode cX9_tipOver 83 = .ok (.iload_n 1, 1) := by decide +kernel
theorem dX9_tipOver_84 : decode cX9_tipOver 84 = .ok (.iaload, 1) := by decide +kernel
theorem dX9_tipOver_85 : decode cX9_tipOver 85 = .ok (.aload_n 0, 1) := by decide +kernel
theorem dX9_tipOver_86 : decode cX9_tipOver 86 = .ok (.getfield 15, 3) := by decide +kernel
theorem dX9_tipOver_89 : decode cX9_tipOver 89 = .ok (.iload_n 2, 1) := by decide +kernel
theorem dX9_tipOver_90 : decode cX9_tipOver 90 = .ok (.iaload, 1) := by decide +kernel
theorem dX9_tipOver_91 : decode cX9_tipOver 91 = .ok (.invokestatic 46, 3) := by decide +kernel
theorem dX9_tipOver_94 : decode cX9_tipOver 94 = .ok (.iastore, 1) := by decide +kernel
theorem dX9_tipOver_95 : decode cX9_tipOver 95 = .ok (.iload_n 3, 1) := by decide +kernel
theorem dX9_tipOver_96 : decode cX9_tipOver 96 = .ok (.ireturn, 1) := by decide +kernel
theorem dX9_passHour_0 : decode cX9_passHour 0 = .ok (.iconst 0, 1) := by decide +kernel
theorem dX9_passHour_1 : decode cX9_passHour 1 = .ok (.istore_n 1, 1) := by decide +kernel
theorem dX9_passHour_2 : decode cX9_passHour 2 = .ok (.iload_n 1, 1) := by decide +kernel
theorem dX9_passHour_3 : decode cX9_passHour 3 = .ok (.iconst 5, 1) := by decide +kernel
theorem dX9_passHour_4 : decode cX9_passHour 4 = .ok (.if_icmp .ge 23, 3) := by decide +kernel
theorem dX9_passHour_7 : decode cX9_passHour 7 = .ok (.aload_n 0, 1) := by decide +kernel
theorem dX9_passHour_8 : decode cX9_passHour 8 = .ok (.getfield 9, 3) := by decide +kernel
theorem dX9_passHour_11 : decode cX9_passHour 11 = .ok (.iload_n 1, 1) := by decide +kernel
theorem dX9_passHour_12 : decode cX9_passHour 12 = .ok (.iaload, 1) := by decide +kernel
theorem dX9_passHour_13 : decode cX9_passHour 13 = .ok (.ifCond .le 8, 3) := by decide +kernel
theorem dX9_passHour_16 : decode cX9_passHour 16 = .ok (.aload_n 0, 1) := by decide +kernel
theorem dX9_passHour_17 : decode cX9_passHour 17 = .ok (.iload_n 1, 1) := by decide +kernel
theorem dX9_passHour_18 : decode cX9_passHour 18 = .ok (.invokevirtual 86, 3) := by decide +kernel
theorem dX9_passHour_21 : decode cX9_passHour 21 = .ok (.iinc 1 1, 3) := by decide +kernel
theorem dX9_passHour_24 : decode cX9_passHour 24 = .ok (.goto (-22), 3) := by decide +kernel
theorem dX9_passHour_27 : decode cX9_passHour 27 = .ok (.aload_n 0, 1) := by decide +kernel
theorem dX9_passHour_28 : decode cX9_passHour 28 = .ok (.dup, 1) := by decide +kernel
theorem dX9_passHour_29 : decode cX9_passHour 29 = .ok (.getfield 31, 3) := by decide +kernel
theorem dX9_passHour_32 : decode cX9_passHour 32 = .ok (.iconst 1, 1) := by decide +kernel
theorem dX9_passHour_33 : decode cX9_passHour 33 = .ok (.iadd, 1) := by decide +kernel
theorem dX9_passHour_34 : decode cX9_passHour 34 = .ok (.putfield 31, 3) := by decide +kernel
theorem dX9_passHour_37 : decode cX9_passHour 37 = .ok (.aload_n 0, 1) := by decide +kernel
theorem dX9_passHour_38 : decode cX9_passHour 38 = .ok (.invokevirtual 90, 3) := by decide +kernel
theorem dX9_passHour_41 : decode cX9_passHour 41 = .ok (.ireturn, 1) := by decide +kernel
theorem dX9_ageByHour_0 : decode cX9_ageByHour 0 = .ok (.aload_n 0, 1) := by decide +kernel
theorem dX9_ageByHour_1 : decode cX9_ageByHour 1 = .ok (.getfield 15, 3) := by decide +kernel
theorem dX9_ageByHour_4 : decode cX9_ageByHour 4 = .ok (.iload_n 1, 1) := by decide +kernel
theorem dX9_ageByHour_5 : decode cX9_ageByHour 5 = .ok (.bipush 9, 2) := by decide +kernel
theorem dX9_ageByHour_7 : decode cX9_ageByHour 7 = .ok (.aload_n 0, 1) := by decide +kernel
theorem dX9_ageByHour_8 : decode cX9_ageByHour 8 = .ok (.getfield 15, 3) := by decide +kernel
theorem dX9_ageByHour_11 : decode cX9_ageByHour 11 = .ok (.iload_n 1, 1) := by decide +kernel
theorem dX9_ageByHour_12 : decode cX9_ageByHour 12 = .ok (.iaload, 1) := by decide +kernel
theorem dX9_ageByHour_13 : decode cX9_ageByHour 13 = .ok (.iconst 1, 1) := by decide +kernel
theorem dX9_ageByHour_14 : decode cX9_ageByHour 14 = .ok (.iadd, 1) := by decide +kernel
theorem dX9_ageByHour_15 : decode cX9_ageByHour 15 = .ok (.invokestatic 77, 3) := by decide +kernel
theorem dX9_ageByHour_18 : decode cX9_ageByHour 18 = .ok (.iastore, 1) := by decide +kernel
theorem dX9_ageByHour_19 : decode cX9_ageByHour 19 = .ok (.aload_n 0, 1) := by decide +kernel
theorem dX9_ageByHour_20 : decode cX9_ageByHour 20 = .ok (.getfield 21, 3) := by decide +kernel
theorem dX9_ageByHour_23 : decode cX9_ageByHour 23 = .ok (.getfield 43, 3) := by decide +kernel
theorem dX9_ageByHour_26 : decode cX9_ageByHour 26 = .ok (.iload_n 1, 1) := by decide +kernel
theorem dX9_ageByHour_27 : decode cX9_ageByHour 27 = .ok (.iaload, 1) := by decide +kernel
theorem dX9_ageByHour_28 : decode cX9_ageByHour 28 = .ok (.iconst 1, 1) := by decide +kernel
theorem dX9_ageByHour_29 : decode cX9_ageByHour 29 = .ok (.if_icmp .ne 16, 3) := by decide +kernel
theorem dX9_ageByHour_32 : decode cX9_ageByHour 32 = .ok (.aload_n 0, 1) := by decide +kernel
theorem dX9_ageByHour_33 : decode cX9_ageByHour 33 = .ok (.getfield 9, 3) := by decide +kernel
theorem dX9_ageByHour_36 : decode cX9_ageByHour 36 = .ok (.iload_n 1, 1) := by decide +kernel
theorem dX9_ageByHour_37 : decode cX9_ageByHour 37 = .ok (.dup2, 1) := by decide +kernel
theorem dX9_ageByHour_38 : decode cX9_ageByHour 38 = .ok (.iaload, 1) := by decide +kernel
theorem dX9_ageByHour_39 : decode cX9_ageByHour 39 = .ok (.iconst 1, 1) := by decide +kernel
theorem dX9_ageByHour_40 : decode cX9_ageByHour 40 = .ok (.isub, 1) := by decide +kernel
theorem dX9_ageByHour_41 : decode cX9_ageByHour 41 = .ok (.iastore, 1) := by decide +kernel
theorem dX9_ageByHour_42 : decode cX9_ageByHour 42 = .ok (.goto 43, 3) := by decide +kernel
theorem dX9_ageByHour_45 : decode cX9_ageByHour 45 = .ok (.aload_n 0, 1) := by decide +kernel
theorem dX9_ageByHour_46 : decode cX9_ageByHour 46 = .ok (.getfield 21, 3) := by decide +kernel
theorem dX9_ageByHour_49 : decode cX9_ageByHour 49 = .ok (.getfield 43, 3) := by decide +kernel
theorem dX9_ageByHour_52 : decode cX9_ageByHour 52 = .ok (.iload_n 1, 1) := by decide +kernel
theorem dX9_ageByHour_53 : decode cX9_ageByHour 53 = .ok (.iaload, 1) := by decide +kernel
theorem dX9_ageByHour_54 : decode cX9_ageByHour 54 = .ok (.iconst 2, 1) := by decide +kernel
theorem dX9_ageByHour_55 : decode cX9_ageByHour 55 = .ok (.if_icmp .ne 30, 3) := by decide +kernel
theorem dX9_ageByHour_58 : decode cX9_ageByHour 58 = .ok (.aload_n 0, 1) := by decide +kernel
theorem dX9_ageByHour_59 : decode cX9_ageByHour 59 = .ok (.getfield 15, 3) := by decide +kernel
theorem dX9_ageByHour_62 : decode cX9_ageByHour 62 = .ok (.iload_n 1, 1) := by decide +kernel
theorem dX9_ageByHour_63 : decode cX9_ageByHour 63 = .ok (.iaload, 1) := by decide +kernel
theorem dX9_ageByHour_64 : decode cX9_ageByHour 64 = .ok (.iconst 1, 1) := by decide +kernel
theorem dX9_ageByHour_65 : decode cX9_ageByHour 65 = .ok (.if_icmp .ne 20, 3) := by decide +kernel
theorem dX9_ageByHour_68 : decode cX9_ageByHour 68 = .ok (.aload_n 0, 1) := by decide +kernel
theorem dX9_ageByHour_69 : decode cX9_ageByHour 69 = .ok (.getfield 9, 3) := by decide +kernel
theorem dX9_ageByHour_72 : decode cX9_ageByHour 72 = .ok (.iload_n 1, 1) := by decide +kernel
theorem dX9_ageByHour_73 : decode cX9_ageByHour 73 = .ok (.dup2, 1) := by decide +kernel
theorem dX9_ageByHour_74 : decode cX9_ageByHour 74 = .ok (.iaload, 1) := by decide +kernel
theorem dX9_ageByHour_75 : decode cX9_ageByHour 75 = .ok (.aload_n 0, 1) := by decide +kernel
theorem dX9_ageByHour_76 : decode cX9_ageByHour 76 = .ok (.getfield 9, 3) := by decide +kernel
theorem dX9_ageByHour_79 : decode cX9_ageByHour 79 = .ok (.iload_n 1, 1) := by decide +kernel
theorem dX9_ageByHour_80 : decode cX9_ageByHour 80 = .ok (.iaload, 1) := by decide +kernel
theorem dX9_ageByHour_81 : decode cX9_ageByHour 81 = .ok (.iconst 4, 1) := by decide +kernel
theorem dX9_ageByHour_82 : decode cX9_ageByHour 82 = .ok (.idiv, 1) := by decide +kernel
theorem dX9_ageByHour_83 : decode cX9_ageByHour 83 = .ok (.isub, 1) := by decide +kernel
theorem dX9_ageByHour_84 : decode cX9_ageByHour 84 = .ok (.iastore, 1) := by decide +kernel
theorem dX9_ageByHour_85 : decode cX9_ageByHour 85 = .ok (.return_, 1) := by decide +kernel
theorem dX9_told_0 : decode cX9_told 0 = .ok (.iload_n 1, 1) := by decide +kernel
theorem dX9_told_1 : decode cX9_told 1 = .ok (.bipush 10, 2) := by decide +kernel
theorem dX9_told_3 : decode cX9_told 3 = .ok (.idiv, 1) := by decide +kernel
theorem dX9_told_4 : decode cX9_told 4 = .ok (.bipush 10, 2) := by decide +kernel
theorem dX9_told_6 : decode cX9_told 6 = .ok (.irem, 1) := by decide +kernel
theorem dX9_told_7 : decode cX9_told 7 = .ok (.istore_n 2, 1) := by decide +kernel
theorem dX9_told_8 : decode cX9_told 8 = .ok (.iload_n 1, 1) := by decide +kernel
theorem dX9_told_9 : decode cX9_told 9 = .ok (.bipush 10, 2) := by decide +kernel
theorem dX9_told_11 : decode cX9_told 11 = .ok (.irem, 1) := by decide +kernel
theorem dX9_told_12 : decode cX9_told 12 = .ok (.istore_n 3, 1) := by decide +kernel
theorem dX9_told_13 : decode cX9_told 13 = .ok (.iload_n 1, 1) := by decide +kernel
theorem dX9_told_14 : decode cX9_told 14 = .ok (.bipush 100, 2) := by decide +kernel
theorem dX9_told_16 : decode cX9_told 16 = .ok (.idiv, 1) := by decide +kernel
theorem dX9_told_17 : decode cX9_told 17 = .ok (.tableswitch 70 0 3 #[31, 38, 45, 52], 31) := by decide +kernel
theorem dX9_told_48 : decode cX9_told 48 = .ok (.aload_n 0, 1) := by decide +kernel
theorem dX9_told_49 : decode cX9_told 49 = .ok (.iload_n 2, 1) := by decide +kernel
theorem dX9_told_50 : decode cX9_told 50 = .ok (.iload_n 3, 1) := by decide +kernel
theorem dX9_told_51 : decode cX9_told 51 = .ok (.invokevirtual 94, 3) := by decide +kernel
theorem dX9_told_54 : decode cX9_told 54 = .ok (.ireturn, 1) := by decide +kernel
theorem dX9_told_55 : decode cX9_told 55 = .ok (.aload_n 0, 1) := by decide +kernel
theorem dX9_told_56 : decode cX9_told 56 = .ok (.iload_n 2, 1) := by decide +kernel
theorem dX9_told_57 : decode cX9_told 57 = .ok (.iload_n 3, 1) := by decide +kernel
theorem dX9_told_58 : decode cX9_told 58 = .ok (.invokevirtual 97, 3) := by decide +kernel
theorem dX9_told_61 : decode cX9_told 61 = .ok (.ireturn, 1) := by decide +kernel
theorem dX9_told_62 : decode cX9_told 62 = .ok (.aload_n 0, 1) := by decide +kernel
theorem dX9_told_63 : decode cX9_told 63 = .ok (.iload_n 2, 1) := by decide +kernel
theorem dX9_told_64 : decode cX9_told 64 = .ok (.iload_n 3, 1) := by decide +kernel
theorem dX9_told_65 : decode cX9_told 65 = .ok (.invokevirtual 100, 3) := by decide +kernel
theorem dX9_told_68 : decode cX9_told 68 = .ok (.ireturn, 1) := by decide +kernel
theorem dX9_told_69 : decode cX9_told 69 = .ok (.iload_n 2, 1) := by decide +kernel
theorem dX9_told_70 : decode cX9_told 70 = .ok (.ifCond .ne 14, 3) := by decide +kernel
theorem dX9_told_73 : decode cX9_told 73 = .ok (.iload_n 3, 1) := by decide +kernel
theorem dX9_told_74 : decode cX9_told 74 = .ok (.ifCond .ne 10, 3) := by decide +kernel
theorem dX9_told_77 : decode cX9_told 77 = .ok (.aload_n 0, 1) := by decide +kernel
theorem dX9_told_78 : decode cX9_told 78 = .ok (.invokevirtual 103, 3) := by decide +kernel
theorem dX9_told_81 : decode cX9_told 81 = .ok (.goto 5, 3) := by decide +kernel
theorem dX9_told_84 : decode cX9_told 84 = .ok (.bipush (-2), 2) := by decide +kernel
theorem dX9_told_86 : decode cX9_told 86 = .ok (.ireturn, 1) := by decide +kernel
theorem dX9_told_87 : decode cX9_told 87 = .ok (.bipush (-2), 2) := by decide +kernel
theorem dX9_told_89 : decode cX9_told 89 = .ok (.ireturn, 1) := by decide +kernel
theorem dX9_passChance_0 : decode cX9_passChance 0 = .ok (.iload_n 1, 1) := by decide +kernel
theorem dX9_passChance_1 : decode cX9_passChance 1 = .ok (.bipush 20, 2) := by decide +kernel
theorem dX9_passChance_3 : decode cX9_passChance 3 = .ok (.if_icmp .lt 11, 3) := by decide +kernel
theorem dX9_passChance_6 : decode cX9_passChance 6 = .ok (.aload_n 0, 1) := by decide +kernel
theorem dX9_passChance_7 : decode cX9_passChance 7 = .ok (.invokevirtual 103, 3) := by decide +kernel
theorem dX9_passChance_10 : decode cX9_passChance 10 = .ok (.pop, 1) := by decide +kernel
theorem dX9_passChance_11 : decode cX9_passChance 11 = .ok (.goto 14, 3) := by decide +kernel
theorem dX9_passChance_14 : decode cX9_passChance 14 = .ok (.aload_n 0, 1) := by decide +kernel
theorem dX9_passChance_15 : decode cX9_passChance 15 = .ok (.iload_n 1, 1) := by decide +kernel
theorem dX9_passChance_16 : decode cX9_passChance 16 = .ok (.iconst 5, 1) := by decide +kernel
theorem dX9_passChance_17 : decode cX9_passChance 17 = .ok (.idiv, 1) := by decide +kernel
theorem dX9_passChance_18 : decode cX9_passChance 18 = .ok (.iload_n 1, 1) := by decide +kernel
theorem dX9_passChance_19 : decode cX9_passChance 19 = .ok (.iconst 5, 1) := by decide +kernel
theorem dX9_passChance_20 : decode cX9_passChance 20 = .ok (.irem, 1) := by decide +kernel
theorem dX9_passChance_21 : decode cX9_passChance 21 = .ok (.invokevirtual 97, 3) := by decide +kernel
theorem dX9_passChance_24 : decode cX9_passChance 24 = .ok (.pop, 1) := by decide +kernel
theorem dX9_passChance_25 : decode cX9_passChance 25 = .ok (.return_, 1) := by decide +kernel
theorem dX9_passEvening_0 : decode cX9_passEvening 0 = .ok (.iconst 0, 1) := by decide +kernel
theorem dX9_passEvening_1 : decode cX9_passEvening 1 = .ok (.istore_n 2, 1) := by decide +kernel
theorem dX9_passEvening_2 : decode cX9_passEvening 2 = .ok (.iload_n 2, 1) := by decide +kernel
theorem dX9_passEvening_3 : decode cX9_passEvening 3 = .ok (.iconst 4, 1) := by decide +kernel
theorem dX9_passEvening_4 : decode cX9_passEvening 4 = .ok (.if_icmp .ge 22, 3) := by decide +kernel
theorem dX9_passEvening_7 : decode cX9_passEvening 7 = .ok (.iload_n 1, 1) := by decide +kernel
theorem dX9_passEvening_8 : decode cX9_passEvening 8 = .ok (.iload_n 2, 1) := by decide +kernel
theorem dX9_passEvening_9 : decode cX9_passEvening 9 = .ok (.invokestatic 106, 3) := by decide +kernel
theorem dX9_passEvening_12 : decode cX9_passEvening 12 = .ok (.ifCond .eq 8, 3) := by decide +kernel
theorem dX9_passEvening_15 : decode cX9_passEvening 15 = .ok (.aload_n 0, 1) := by decide +kernel
theorem dX9_passEvening_16 : decode cX9_passEvening 16 = .ok (.iload_n 2, 1) := by decide +kernel
theorem dX9_passEvening_17 : decode cX9_passEvening 17 = .ok (.invokevirtual 109, 3) := by decide +kernel
theorem dX9_passEvening_20 : decode cX9_passEvening 20 = .ok (.iinc 2 1, 3) := by decide +kernel
theorem dX9_passEvening_23 : decode cX9_passEvening 23 = .ok (.goto (-21), 3) := by decide +kernel
theorem dX9_passEvening_26 : decode cX9_passEvening 26 = .ok (.return_, 1) := by decide +kernel
theorem dX9_drinkAround_0 : decode cX9_drinkAround 0 = .ok (.aload_n 0, 1) := by decide +kernel
theorem dX9_drinkAround_1 : decode cX9_drinkAround 1 = .ok (.getfield 21, 3) := by decide +kernel
theorem dX9_drinkAround_4 : decode cX9_drinkAround 4 = .ok (.getfield 112, 3) := by decide +kernel
theorem dX9_drinkAround_7 : decode cX9_drinkAround 7 = .ok (.iload_n 1, 1) := by decide +kernel
theorem dX9_drinkAround_8 : decode cX9_drinkAround 8 = .ok (.iaload, 1) := by decide +kernel
theorem dX9_drinkAround_9 : decode cX9_drinkAround 9 = .ok (.istore_n 2, 1) := by decide +kernel
theorem dX9_drinkAround_10 : decode cX9_drinkAround 10 = .ok (.iconst 0, 1) := by decide +kernel
theorem dX9_drinkAround_11 : decode cX9_drinkAround 11 = .ok (.istore_n 3, 1) := by decide +kernel
theorem dX9_drinkAround_12 : decode cX9_drinkAround 12 = .ok (.iload_n 3, 1) := by decide +kernel
theorem dX9_drinkAround_13 : decode cX9_drinkAround 13 = .ok (.iconst 5, 1) := by decide +kernel
theorem dX9_drinkAround_14 : decode cX9_drinkAround 14 = .ok (.if_icmp .ge 24, 3) := by decide +kernel
theorem dX9_drinkAround_17 : decode cX9_drinkAround 17 = .ok (.iload_n 2, 1) := by decide +kernel
theorem dX9_drinkAround_18 : decode cX9_drinkAround 18 = .ok (.iload_n 3, 1) := by decide +kernel
theorem dX9_drinkAround_19 : decode cX9_drinkAround 19 = .ok (.invokestatic 106, 3) := by decide +kernel
theorem dX9_drinkAround_22 : decode cX9_drinkAround 22 = .ok (.ifCond .eq 10, 3) := by decide +kernel
theorem dX9_drinkAround_25 : decode cX9_drinkAround 25 = .ok (.aload_n 0, 1) := by decide +kernel
theorem dX9_drinkAround_26 : decode cX9_drinkAround 26 = .ok (.iload_n 1, 1) := by decide +kernel
theorem dX9_drinkAround_27 : decode cX9_drinkAround 27 = .ok (.iload_n 3, 1) := by decide +kernel
theorem dX9_drinkAround_28 : decode cX9_drinkAround 28 = .ok (.invokevirtual 83, 3) := by decide +kernel
theorem dX9_drinkAround_31 : decode cX9_drinkAround 31 = .ok (.pop, 1) := by decide +kernel
theorem dX9_drinkAround_32 : decode cX9_drinkAround 32 = .ok (.iinc 3 1, 3) := by decide +kernel
theorem dX9_drinkAround_35 : decode cX9_drinkAround 35 = .ok (.goto (-23), 3) := by decide +kernel
theorem dX9_drinkAround_38 : decode cX9_drinkAround 38 = .ok (.return_, 1) := by decide +kernel
theorem dX9_swallow_0 : decode cX9_swallow 0 = .ok (.aload_n 0, 1) := by decide +kernel
theorem dX9_swallow_1 : decode cX9_swallow 1 = .ok (.getfield 21, 3) := by decide +kernel
theorem dX9_swallow_4 : decode cX9_swallow 4 = .ok (.getfield 63, 3) := by decide +kernel
theorem dX9_swallow_7 : decode cX9_swallow 7 = .ok (.iload_n 1, 1) := by decide +kernel
theorem dX9_swallow_8 : decode cX9_swallow 8 = .ok (.iaload, 1) := by decide +kernel
theorem dX9_swallow_9 : decode cX9_swallow 9 = .ok (.aload_n 0, 1) := by decide +kernel
theorem dX9_swallow_10 : decode cX9_swallow 10 = .ok (.getfield 18, 3) := by decide +kernel
theorem dX9_swallow_13 : decode cX9_swallow 13 = .ok (.iload_n 1, 1) := by decide +kernel
theorem dX9_swallow_14 : decode cX9_swallow 14 = .ok (.iaload, 1) := by decide +kernel
theorem dX9_swallow_15 : decode cX9_swallow 15 = .ok (.aload_n 0, 1) := by decide +kernel
theorem dX9_swallow_16 : decode cX9_swallow 16 = .ok (.getfield 9, 3) := by decide +kernel
theorem dX9_swallow_19 : decode cX9_swallow 19 = .ok (.iload_n 2, 1) := by decide +kernel
theorem dX9_swallow_20 : decode cX9_swallow 20 = .ok (.iaload, 1) := by decide +kernel
theorem dX9_swallow_21 : decode cX9_swallow 21 = .ok (.invokestatic 66, 3) := by decide +kernel
theorem dX9_swallow_24 : decode cX9_swallow 24 = .ok (.istore_n 3, 1) := by decide +kernel
theorem dX9_swallow_25 : decode cX9_swallow 25 = .ok (.aload_n 0, 1) := by decide +kernel
theorem dX9_swallow_26 : decode cX9_swallow 26 = .ok (.getfield 9, 3) := by decide +kernel
theorem dX9_swallow_29 : decode cX9_swallow 29 = .ok (.iload_n 2, 1) := by decide +kernel
theorem dX9_swallow_30 : decode cX9_swallow 30 = .ok (.dup2, 1) := by decide +kernel
theorem dX9_swallow_31 : decode cX9_swallow 31 = .ok (.iaload, 1) := by decide +kernel
theorem dX9_swallow_32 : decode cX9_swallow 32 = .ok (.iload_n 3, 1) := by decide +kernel
theorem dX9_swallow_33 : decode cX9_swallow 33 = .ok (.isub, 1) := by decide +kernel
theorem dX9_swallow_34 : decode cX9_swallow 34 = .ok (.iastore, 1) := by decide +kernel
theorem dX9_swallow_35 : decode cX9_swallow 35 = .ok (.aload_n 0, 1) := by decide +kernel
theorem dX9_swallow_36 : decode cX9_swallow 36 = .ok (.getfield 18, 3) := by decide +kernel
theorem dX9_swallow_39 : decode cX9_swallow 39 = .ok (.iload_n 1, 1) := by decide +kernel
theorem dX9_swallow_40 : decode cX9_swallow 40 = .ok (.dup2, 1) := by decide +kernel
theorem dX9_swallow_41 : decode cX9_swallow 41 = .ok (.iaload, 1) := by decide +kernel
theorem dX9_swallow_42 : decode cX9_swallow 42 = .ok (.iload_n 3, 1) := by decide +kernel
theorem dX9_swallow_43 : decode cX9_swallow 43 = .ok (.isub, 1) := by decide +kernel
theorem dX9_swallow_44 : decode cX9_swallow 44 = .ok (.iastore, 1) := by decide +kernel
theorem dX9_swallow_45 : decode cX9_swallow 45 = .ok (.iload_n 3, 1) := by decide +kernel
theorem dX9_swallow_46 : decode cX9_swallow 46 = .ok (.ireturn, 1) := by decide +kernel
theorem dX9_fillOnly_0 : decode cX9_fillOnly 0 = .ok (.iconst 0, 1) := by decide +kernel
theorem dX9_fillOnly_1 : decode cX9_fillOnly 1 = .ok (.istore_n 2, 1) := by decide +kernel
theorem dX9_fillOnly_2 : decode cX9_fillOnly 2 = .ok (.iload_n 2, 1) := by decide +kernel
theorem dX9_fillOnly_3 : decode cX9_fillOnly 3 = .ok (.iconst 5, 1) := by decide +kernel
theorem dX9_fillOnly_4 : decode cX9_fillOnly 4 = .ok (.if_icmp .ge 43, 3) := by decide +kernel
theorem dX9_fillOnly_7 : decode cX9_fillOnly 7 = .ok (.aload_n 0, 1) := by decide +kernel
theorem dX9_fillOnly_8 : decode cX9_fillOnly 8 = .ok (.getfield 9, 3) := by decide +kernel
theorem dX9_fillOnly_11 : decode cX9_fillOnly 11 = .ok (.iload_n 2, 1) := by decide +kernel
theorem dX9_fillOnly_12 : decode cX9_fillOnly 12 = .ok (.iload_n 1, 1) := by decide +kernel
theorem dX9_fillOnly_13 : decode cX9_fillOnly 13 = .ok (.iload_n 2, 1) := by decide +kernel
theorem dX9_fillOnly_14 : decode cX9_fillOnly 14 = .ok (.invokestatic 106, 3) := by decide +kernel
theorem dX9_fillOnly_17 : decode cX9_fillOnly 17 = .ok (.ifCond .eq 15, 3) := by decide +kernel
theorem dX9_fillOnly_20 : decode cX9_fillOnly 20 = .ok (.aload_n 0, 1) := by decide +kernel
theorem dX9_fillOnly_21 : decode cX9_fillOnly 21 = .ok (.getfield 21, 3) := by decide +kernel
theorem dX9_fillOnly_24 : decode cX9_fillOnly 24 = .ok (.getfield 52, 3) := by decide +kernel
theorem dX9_fillOnly_27 : decode cX9_fillOnly 27 = .ok (.iload_n 2, 1) := by decide +kernel
theorem dX9_fillOnly_28 : decode cX9_fillOnly 28 = .ok (.iaload, 1) := by decide +kernel
theorem dX9_fillOnly_29 : decode cX9_fillOnly 29 = .ok (.goto 4, 3) := by decide +kernel
theorem dX9_fillOnly_32 : decode cX9_fillOnly 32 = .ok (.iconst 0, 1) := by decide +kernel
theorem dX9_fillOnly_33 : decode cX9_fillOnly 33 = .ok (.iastore, 1) := by decide +kernel
theorem dX9_fillOnly_34 : decode cX9_fillOnly 34 = .ok (.aload_n 0, 1) := by decide +kernel
theorem dX9_fillOnly_35 : decode cX9_fillOnly 35 = .ok (.getfield 15, 3) := by decide +kernel
theorem dX9_fillOnly_38 : decode cX9_fillOnly 38 = .ok (.iload_n 2, 1) := by decide +kernel
theorem dX9_fillOnly_39 : decode cX9_fillOnly 39 = .ok (.iconst 0, 1) := by decide +kernel
theorem dX9_fillOnly_40 : decode cX9_fillOnly 40 = .ok (.iastore, 1) := by decide +kernel
theorem dX9_fillOnly_41 : decode cX9_fillOnly 41 = .ok (.iinc 2 1, 3) := by decide +kernel
theorem dX9_fillOnly_44 : decode cX9_fillOnly 44 = .ok (.goto (-42), 3) := by decide +kernel
theorem dX9_fillOnly_47 : decode cX9_fillOnly 47 = .ok (.return_, 1) := by decide +kernel
theorem dX9_isQuenched_0 : decode cX9_isQuenched 0 = .ok (.iconst 0, 1) := by decide +kernel
theorem dX9_isQuenched_1 : decode cX9_isQuenched 1 = .ok (.istore_n 1, 1) := by decide +kernel
theorem dX9_isQuenched_2 : decode cX9_isQuenched 2 = .ok (.iload_n 1, 1) := by decide +kernel
theorem dX9_isQuenched_3 : decode cX9_isQuenched 3 = .ok (.iconst 4, 1) := by decide +kernel
theorem dX9_isQuenched_4 : decode cX9_isQuenched 4 = .ok (.if_icmp .ge 33, 3) := by decide +kernel
theorem dX9_isQuenched_7 : decode cX9_isQuenched 7 = .ok (.aload_n 0, 1) := by decide +kernel
theorem dX9_isQuenched_8 : decode cX9_isQuenched 8 = .ok (.getfield 18, 3) := by decide +kernel
theorem dX9_isQuenched_11 : decode cX9_isQuenched 11 = .ok (.iload_n 1, 1) := by decide +kernel
theorem dX9_isQuenched_12 : decode cX9_isQuenched 12 = .ok (.iaload, 1) := by decide +kernel
theorem dX9_isQuenched_13 : decode cX9_isQuenched 13 = .ok (.ifCond .le 18, 3) := by decide +kernel
theorem dX9_isQuenched_16 : decode cX9_isQuenched 16 = .ok (.aload_n 0, 1) := by decide +kernel
theorem dX9_isQuenched_17 : decode cX9_isQuenched 17 = .ok (.getfield 21, 3) := by decide +kernel
theorem dX9_isQuenched_20 : decode cX9_isQuenched 20 = .ok (.getfield 63, 3) := by decide +kernel
theorem dX9_isQuenched_23 : decode cX9_isQuenched 23 = .ok (.iload_n 1, 1) := by decide +kernel
theorem dX9_isQuenched_24 : decode cX9_isQuenched 24 = .ok (.iaload, 1) := by decide +kernel
theorem dX9_isQuenched_25 : decode cX9_isQuenched 25 = .ok (.iconst 3, 1) := by decide +kernel
theorem dX9_isQuenched_26 : decode cX9_isQuenched 26 = .ok (.if_icmp .eq 5, 3) := by decide +kernel
theorem dX9_isQuenched_29 : decode cX9_isQuenched 29 = .ok (.iconst 0, 1) := by decide +kernel
theorem dX9_isQuenched_30 : decode cX9_isQuenched 30 = .ok (.ireturn, 1) := by decide +kernel
theorem dX9_isQuenched_31 : decode cX9_isQuenched 31 = .ok (.iinc 1 1, 3) := by decide +kernel
theorem dX9_isQuenched_34 : decode cX9_isQuenched 34 = .ok (.goto (-32), 3) := by decide +kernel
theorem dX9_isQuenched_37 : decode cX9_isQuenched 37 = .ok (.iconst 1, 1) := by decide +kernel
theorem dX9_isQuenched_38 : decode cX9_isQuenched 38 = .ok (.ireturn, 1) := by decide +kernel
theorem dX10_init_0 : decode cX10_init 0 = .ok (.aload_n 0, 1) := by decide +kernel
theorem dX10_init_1 : decode cX10_init 1 = .ok (.invokespecial 3, 3) := by decide +kernel
theorem dX10_init_4 : decode cX10_init 4 = .ok (.aload_n 0, 1) := by decide +kernel
theorem dX10_init_5 : decode cX10_init 5 = .ok (.new 9, 3) := by decide +kernel
theorem dX10_init_8 : decode cX10_init 8 = .ok (.dup, 1) := by decide +kernel
theorem dX10_init_9 : decode cX10_init 9 = .ok (.invokespecial 11, 3) := by decide +kernel
theorem dX10_init_12 : decode cX10_init 12 = .ok (.putfield 12, 3) := by decide +kernel
theorem dX10_init_15 : decode cX10_init 15 = .ok (.aload_n 0, 1) := by decide +kernel
theorem dX10_init_16 : decode cX10_init 16 = .ok (.new 16, 3) := by decide +kernel
theorem dX10_init_19 : decode cX10_init 19 = .ok (.dup, 1) := by decide +kernel
theorem dX10_init_20 : decode cX10_init 20 = .ok (.invokespecial 18, 3) := by decide +kernel
theorem dX10_init_23 : decode cX10_init 23 = .ok (.putfield 19, 3) := by decide +kernel
theorem dX10_init_26 : decode cX10_init 26 = .ok (.aload_n 0, 1) := by decide +kernel
theorem dX10_init_27 : decode cX10_init 27 = .ok (.new 23, 3) := by decide +kernel
theorem dX10_init_30 : decode cX10_init 30 = .ok (.dup, 1) := by decide +kernel
theorem dX10_init_31 : decode cX10_init 31 = .ok (.invokespecial 25, 3) := by decide +kernel
theorem dX10_init_34 : decode cX10_init 34 = .ok (.putfield 26, 3) := by decide +kernel
theorem dX10_init_37 : decode cX10_init 37 = .ok (.aload_n 0, 1) := by decide +kernel
theorem dX10_init_38 : decode cX10_init 38 = .ok (.new 23, 3) := by decide +kernel
theorem dX10_init_41 : decode cX10_init 41 = .ok (.dup, 1) := by decide +kernel
theorem dX10_init_42 : decode cX10_init 42 = .ok (.invokespecial 25, 3) := by decide +kernel
theorem dX10_init_45 : decode cX10_init 45 = .ok (.putfield 30, 3) := by decide +kernel
theorem dX10_init_48 : decode cX10_init 48 = .ok (.aload_n 0, 1) := by decide +kernel
theorem dX10_init_49 : decode cX10_init 49 = .ok (.new 33, 3) := by decide +kernel
theorem dX10_init_52 : decode cX10_init 52 = .ok (.dup, 1) := by decide +kernel
theorem dX10_init_53 : decode cX10_init 53 = .ok (.aload_n 0, 1) := by decide +kernel
theorem dX10_init_54 : decode cX10_init 54 = .ok (.getfield 30, 3) := by decide +kernel
theorem dX10_init_57 : decode cX10_init 57 = .ok (.invokespecial 35, 3) := by decide +kernel
theorem dX10_init_60 : decode cX10_init 60 = .ok (.putfield 38, 3) := by decide +kernel
theorem dX10_init_63 : decode cX10_init 63 = .ok (.aload_n 0, 1) := by decide +kernel
theorem dX10_init_64 : decode cX10_init 64 = .ok (.new 33, 3) := by decide +kernel
theorem dX10_init_67 : decode cX10_init 67 = .ok (.dup, 1) := by decide +kernel
theorem dX10_init_68 : decode cX10_init 68 = .ok (.aload_n 0, 1) := by decide +kernel
theorem dX10_init_69 : decode cX10_init 69 = .ok (.getfield 30, 3) := by decide +kernel
theorem dX10_init_72 : decode cX10_init 72 = .ok (.invokespecial 35, 3) := by decide +kernel
theorem dX10_init_75 : decode cX10_init 75 = .ok (.putfield 42, 3) := by decide +kernel
theorem dX10_init_78 : decode cX10_init 78 = .ok (.aload_n 0, 1) := by decide +kernel
theorem dX10_init_79 : decode cX10_init 79 = .ok (.new 33, 3) := by decide +kernel
theorem dX10_init_82 : decode cX10_init 82 = .ok (.dup, 1) := by decide +kernel
theorem dX10_init_83 : decode cX10_init 83 = .ok (.aload_n 0, 1) := by decide +kernel
theorem dX10_init_84 : decode cX10_init 84 = .ok (.getfield 30, 3) := by decide +kernel
theorem dX10_init_87 : decode cX10_init 87 = .ok (.invokespecial 35, 3) := by decide +kernel
theorem dX10_init_90 : decode cX10_init 90 = .ok (.putfield 45, 3) := by decide +kernel
theorem dX10_init_93 : decode cX10_init 93 = .ok (.aload_n 0, 1) := by decide +kernel
theorem dX10_init_94 : decode cX10_init 94 = .ok (.new 48, 3) := by decide +kernel
theorem dX10_init_97 : decode cX10_init 97 = .ok (.dup, 1) := by decide +kernel
theorem dX10_init_98 : decode cX10_init 98 = .ok (.invokespecial 50, 3) := by decide +kernel
theorem dX10_init_101 : decode cX10_init 101 = .ok (.putfield 51, 3) := by decide +kernel
theorem dX10_init_104 : decode cX10_init 104 = .ok (.aload_n 0, 1) := by decide +kernel
theorem dX10_init_105 : decode cX10_init 105 = .ok (.new 55, 3) := by decide +kernel
theorem dX10_init_108 : decode cX10_init 108 = .ok (.dup, 1) := by decide +kernel
theorem dX10_init_109 : decode cX10_init 109 = .ok (.iconst 2, 1) := by decide +kernel
theorem dX10_init_110 : decode cX10_init 110 = .ok (.invokespecial 57, 3) := by decide +kernel
theorem dX10_init_113 : decode cX10_init 113 = .ok (.putfield 60, 3) := by decide +kernel
theorem dX10_init_116 : decode cX10_init 116 = .ok (.aload_n 0, 1) := by decide +kernel
theorem dX10_init_117 : decode cX10_init 117 = .ok (.new 64, 3) := by decide +kernel
theorem dX10_init_120 : decode cX10_init 120 = .ok (.dup, 1) := by decide +kernel
theorem dX10_init_121 : decode cX10_init 121 = .ok (.invokespecial 66, 3) := by decide +kernel
theorem dX10_init_124 : decode cX10_init 124 = .ok (.putfield 67, 3) := by decide +kernel
theorem dX10_init_127 : decode cX10_init 127 = .ok (.aload_n 0, 1) := by decide +kernel
theorem dX10_init_128 : decode cX10_init 128 = .ok (.new 71, 3) := by decide +kernel
theorem dX10_init_131 : decode cX10_init 131 = .ok (.dup, 1) := by decide +kernel
theorem dX10_init_132 : decode cX10_init 132 = .ok (.aload_n 0, 1) := by decide +kernel
theorem dX10_init_133 : decode cX10_init 133 = .ok (.getfield 30, 3) := by decide +kernel
theorem dX10_init_136 : decode cX10_init 136 = .ok (.aload_n 0, 1) := by decide +kernel
theorem dX10_init_137 : decode cX10_init 137 = .ok (.getfield 38, 3) := by decide +kernel
theorem dX10_init_140 : decode cX10_init 140 = .ok (.aload_n 0, 1) := by decide +kernel
theorem dX10_init_141 : decode cX10_init 141 = .ok (.getfield 45, 3) := by decide +kernel
theorem dX10_init_144 : decode cX10_init 144 = .ok (.invokespecial 73, 3) := by decide +kernel
theorem dX10_init_147 : decode cX10_init 147 = .ok (.putfield 76, 3) := by decide +kernel
theorem dX10_init_150 : decode cX10_init 150 = .ok (.aload_n 0, 1) := by decide +kernel
theorem dX10_init_151 : decode cX10_init 151 = .ok (.new 80, 3) := by decide +kernel
theorem dX10_init_154 : decode cX10_init 154 = .ok (.dup, 1) := by decide +kernel
theorem dX10_init_155 : decode cX10_init 155 = .ok (.aload_n 0, 1) := by decide +kernel
theorem dX10_init_156 : decode cX10_init 156 = .ok (.getfield 30, 3) := by decide +kernel
theorem dX10_init_159 : decode cX10_init 159 = .ok (.aload_n 0, 1) := by decide +kernel
theorem dX10_init_160 : decode cX10_init 160 = .ok (.getfield 38, 3) := by decide +kernel
theorem dX10_init_163 : decode cX10_init 163 = .ok (.aload_n 0, 1) := by decide +kernel
theorem dX10_init_164 : decode cX10_init 164 = .ok (.getfield 45, 3) := by decide +kernel
theorem dX10_init_167 : decode cX10_init 167 = .ok (.invokespecial 82, 3) := by decide +kernel
theorem dX10_init_170 : decode cX10_init 170 = .ok (.putfield 83, 3) := by decide +kernel
theorem dX10_init_173 : decode cX10_init 173 = .ok (.aload_n 0, 1) := by decide +kernel
theorem dX10_init_174 : decode cX10_init 174 = .ok (.new 87, 3) := by decide +kernel
theorem dX10_init_177 : decode cX10_init 177 = .ok (.dup, 1) := by decide +kernel
theorem dX10_init_178 : decode cX10_init 178 = .ok (.aload_n 0, 1) := by decide +kernel
theorem dX10_init_179 : decode cX10_init 179 = .ok (.getfield 30, 3) := by decide +kernel
theorem dX10_init_182 : decode cX10_init 182 = .ok (.aload_n 0, 1) := by decide +kernel
theorem dX10_init_183 : decode cX10_init 183 = .ok (.getfield 38, 3) := by decide +kernel
theorem dX10_init_186 : decode cX10_init 186 = .ok (.invokespecial 89, 3) := by decide +kernel
theorem dX10_init_189 : decode cX10_init 189 = .ok (.putfield 92, 3) := by decide +kernel
theorem dX10_init_192 : decode cX10_init 192 = .ok (.return_, 1) := by decide +kernel
theorem dX10_write_0 : decode cX10_write 0 = .ok (.iload_n 1, 1) := by decide +kernel
theorem dX10_write_1 : decode cX10_write 1 = .ok (.ifCond .lt 10, 3) := by decide +kernel
theorem dX10_write_4 : decode cX10_write 4 = .ok (.iload_n 1, 1) := by decide +kernel
theorem dX10_write_5 : decode cX10_write 5 = .ok (.sipush 255, 3) := by decide +kernel
theorem dX10_write_8 : decode cX10_write 8 = .ok (.if_icmp .le 6, 3) := by decide +kernel
theorem dX10_write_11 : decode cX10_write 11 = .ok (.bipush (-2), 2) := by decide +kernel
theorem dX10_write_13 : decode cX10_write 13 = .ok (.ireturn, 1) := by decide +kernel
theorem dX10_write_14 : decode cX10_write 14 = .ok (.aload_n 0, 1) := by decide +kernel
theorem dX10_write_15 : decode cX10_write 15 = .ok (.getfield 12, 3) := by decide +kernel
theorem dX10_write_18 : decode cX10_write 18 = .ok (.iload_n 1, 1) := by decide +kernel
theorem dX10_write_19 : decode cX10_write 19 = .ok (.invokevirtual 96, 3) := by decide +kernel
theorem dX10_write_22 : decode cX10_write 22 = .ok (.ireturn, 1) := by decide +kernel
theorem dX10_wipe_0 : decode cX10_wipe 0 = .ok (.aload_n 0, 1) := by decide +kernel
theorem dX10_wipe_1 : decode cX10_wipe 1 = .ok (.getfield 12, 3) := by decide +kernel
theorem dX10_wipe_4 : decode cX10_wipe 4 = .ok (.getfield 100, 3) := by decide +kernel
theorem dX10_wipe_7 : decode cX10_wipe 7 = .ok (.istore_n 1, 1) := by decide +kernel
theorem dX10_wipe_8 : decode cX10_wipe 8 = .ok (.aload_n 0, 1) := by decide +kernel
theorem dX10_wipe_9 : decode cX10_wipe 9 = .ok (.getfield 12, 3) := by decide +kernel
theorem dX10_wipe_12 : decode cX10_wipe 12 = .ok (.iconst 0, 1) := by decide +kernel
theorem dX10_wipe_13 : decode cX10_wipe 13 = .ok (.putfield 100, 3) := by decide +kernel
theorem dX10_wipe_16 : decode cX10_wipe 16 = .ok (.iload_n 1, 1) := by decide +kernel
theorem dX10_wipe_17 : decode cX10_wipe 17 = .ok (.ireturn, 1) := by decide +kernel
theorem dX10_fault_0 : decode cX10_fault 0 = .ok (.aload_n 0, 1) := by decide +kernel
theorem dX10_fault_1 : decode cX10_fault 1 = .ok (.getfield 19, 3) := by decide +kernel
theorem dX10_fault_4 : decode cX10_fault 4 = .ok (.aload_n 0, 1) := by decide +kernel
theorem dX10_fault_5 : decode cX10_fault 5 = .ok (.getfield 12, 3) := by decide +kernel
theorem dX10_fault_8 : decode cX10_fault 8 = .ok (.aload_n 0, 1) := by decide +kernel
theorem dX10_fault_9 : decode cX10_fault 9 = .ok (.getfield 26, 3) := by decide +kernel
theorem dX10_fault_12 : decode cX10_fault 12 = .ok (.invokevirtual 104, 3) := by decide +kernel
theorem dX10_fault_15 : decode cX10_fault 15 = .ok (.ireturn, 1) := by decide +kernel
theorem dX10_inn_0 : decode cX10_inn 0 = .ok (.aload_n 0, 1) := by decide +kernel
theorem dX10_inn_1 : decode cX10_inn 1 = .ok (.getfield 19, 3) := by decide +kernel
theorem dX10_inn_4 : decode cX10_inn 4 = .ok (.aload_n 0, 1) := by decide +kernel
theorem dX10_inn_5 : decode cX10_inn 5 = .ok (.getfield 12, 3) := by decide +kernel
theorem dX10_inn_8 : decode cX10_inn 8 = .ok (.aload_n 0, 1) := by decide +kernel
theorem dX10_inn_9 : decode cX10_inn 9 = .ok (.getfield 26, 3) := by decide +kernel
theorem dX10_inn_12 : decode cX10_inn 12 = .ok (.invokevirtual 104, 3) := by decide +kernel
theorem dX10_inn_15 : decode cX10_inn 15 = .ok (.bipush (-9), 2) := by decide +kernel
theorem dX10_inn_17 : decode cX10_inn 17 = .ok (.if_icmp .eq 6, 3) := by decide +kernel
theorem dX10_inn_20 : decode cX10_inn 20 = .ok (.bipush (-3), 2) := by decide +kernel
theorem dX10_inn_22 : decode cX10_inn 22 = .ok (.ireturn, 1) := by decide +kernel
theorem dX10_inn_23 : decode cX10_inn 23 = .ok (.aload_n 0, 1) := by decide +kernel
theorem dX10_inn_24 : decode cX10_inn 24 = .ok (.getfield 30, 3) := by decide +kernel
theorem dX10_inn_27 : decode cX10_inn 27 = .ok (.aload_n 0, 1) := by decide +kernel
theorem dX10_inn_28 : decode cX10_inn 28 = .ok (.getfield 26, 3) := by decide +kernel
theorem dX10_inn_31 : decode cX10_inn 31 = .ok (.invokevirtual 108, 3) := by decide +kernel
theorem dX10_inn_34 : decode cX10_inn 34 = .ok (.aload_n 0, 1) := by decide +kernel
theorem dX10_inn_35 : decode cX10_inn 35 = .ok (.getfield 38, 3) := by decide +kernel
theorem dX10_inn_38 : decode cX10_inn 38 = .ok (.invokevirtual 111, 3) := by decide +kernel
theorem dX10_inn_41 : decode cX10_inn 41 = .ok (.aload_n 0, 1) := by decide +kernel
theorem dX10_inn_42 : decode cX10_inn 42 = .ok (.getfield 51, 3) := by decide +kernel
theorem dX10_inn_45 : decode cX10_inn 45 = .ok (.invokevirtual 114, 3) := by decide +kernel
theorem dX10_inn_48 : decode cX10_inn 48 = .ok (.aload_n 0, 1) := by decide +kernel
theorem dX10_inn_49 : decode cX10_inn 49 = .ok (.iconst 0, 1) := by decide +kernel
theorem dX10_inn_50 : decode cX10_inn 50 = .ok (.putfield 117, 3) := by decide +kernel
theorem dX10_inn_53 : decode cX10_inn 53 = .ok (.bipush 10, 2) := by decide +kernel
theorem dX10_inn_55 : decode cX10_inn 55 = .ok (.aload_n 0, 1) := by decide +kernel
theorem dX10_inn_56 : decode cX10_inn 56 = .ok (.getfield 30, 3) := by decide +kernel
theorem dX10_inn_59 : decode cX10_inn 59 = .ok (.getfield 120, 3) := by decide +kernel
theorem dX10_inn_62 : decode cX10_inn 62 = .ok (.imul, 1) := by decide +kernel
theorem dX10_inn_63 : decode cX10_inn 63 = .ok (.aload_n 0, 1) := by decide +kernel
theorem dX10_inn_64 : decode cX10_inn 64 = .ok (.getfield 30, 3) := by decide +kernel
theorem dX10_inn_67 : decode cX10_inn 67 = .ok (.getfield 123, 3) := by decide +kernel
theorem dX10_inn_70 : decode cX10_inn 70 = .ok (.iadd, 1) := by decide +kernel
theorem dX10_inn_71 : decode cX10_inn 71 = .ok (.ireturn, 1) := by decide +kernel
theorem dX10_glass_0 : decode cX10_glass 0 = .ok (.aload_n 0, 1) := by decide +kernel
theorem dX10_glass_1 : decode cX10_glass 1 = .ok (.getfield 30, 3) := by decide +kernel
theorem dX10_glass_4 : decode cX10_glass 4 = .ok (.iload_n 1, 1) := by decide +kernel
theorem dX10_glass_5 : decode cX10_glass 5 = .ok (.invokevirtual 126, 3) := by decide +kernel
theorem dX10_glass_8 : decode cX10_glass 8 = .ok (.ifCond .ne 5, 3) := by decide +kernel
theorem dX10_glass_11 : decode cX10_glass 11 = .ok (.iconst (-1), 1) := by decide +kernel
theorem dX10_glass_12 : decode cX10_glass 12 = .ok (.ireturn, 1) := by decide +kernel
theorem dX10_glass_13 : decode cX10_glass 13 = .ok (.iload_n 2, 1) := by decide +kernel
theorem dX10_glass_14 : decode cX10_glass 14 = .ok (.tableswitch 96 0 5 #[38, 48, 58, 68, 78, 87], 38) := by decide +kernel
theorem dX10_glass_52 : decode cX10_glass 52 = .ok (.aload_n 0, 1) := by decide +kernel
theorem dX10_glass_53 : decode cX10_glass 53 = .ok (.getfield 30, 3) := by decide +kernel
theorem dX10_glass_56 : decode cX10_glass 56 = .ok (.getfield 130, 3) := by decide +kernel
theorem dX10_glass_59 : decode cX10_glass 59 = .ok (.iload_n 1, 1) := by decide +kernel
theorem dX10_glass_60 : decode cX10_glass 60 = .ok (.iaload, 1) := by decide +kernel
theorem dX10_glass_61 : decode cX10_glass 61 = .ok (.ireturn, 1) := by decide +kernel
theorem dX10_glass_62 : decode cX10_glass 62 = .ok (.aload_n 0, 1) := by decide +kernel
theorem dX10_glass_63 : decode cX10_glass 63 = .ok (.getfield 38, 3) := by decide +kernel
theorem dX10_glass_66 : decode cX10_glass 66 = .ok (.getfield 134, 3) := by decide +kernel
theorem dX10_glass_69 : decode cX10_glass 69 = .ok (.iload_n 1, 1) := by decide +kernel
theorem dX10_glass_70 : decode cX10_glass 70 = .ok (.iaload, 1) := by decide +kernel
theorem dX10_glass_71 : decode cX10_glass 71 = .ok (.ireturn, 1) := by decide +kernel
theorem dX10_glass_72 : decode cX10_glass 72 = .ok (.aload_n 0, 1) := by decide +kernel
theorem dX10_glass_73 : decode cX10_glass 73 = .ok (.getfield 30, 3) := by decide +kernel
theorem dX10_glass_76 : decode cX10_glass 76 = .ok (.getfield 137, 3) := by decide +kernel
theorem dX10_glass_79 : decode cX10_glass 79 = .ok (.iload_n 1, 1) := by decide +kernel
theorem dX10_glass_80 : decode cX10_glass 80 = .ok (.iaload, 1) := by decide +kernel
theorem dX10_glass_81 : decode cX10_glass 81 = .ok (.ireturn, 1) := by decide +kernel
theorem dX10_glass_82 : decode cX10_glass 82 = .ok (.aload_n 0, 1) := by decide +kernel
theorem dX10_glass_83 : decode cX10_glass 83 = .ok (.getfield 38, 3) := by decide +kernel
theorem dX10_glass_86 : decode cX10_glass 86 = .ok (.getfield 140, 3) := by decide +kernel
theorem dX10_glass_89 : decode cX10_glass 89 = .ok (.iload_n 1, 1) := by decide +kernel
theorem dX10_glass_90 : decode cX10_glass 90 = .ok (.iaload, 1) := by decide +kernel
theorem dX10_glass_91 : decode cX10_glass 91 = .ok (.ireturn, 1) := by decide +kernel
theorem dX10_glass_92 : decode cX10_glass 92 = .ok (.aload_n 0, 1) := by decide +kernel
theorem dX10_glass_93 : decode cX10_glass 93 = .ok (.getfield 38, 3) := by decide +kernel
theorem dX10_glass_96 : decode cX10_glass 96 = .ok (.iload_n 1, 1) := by decide +kernel
theorem dX10_glass_97 : decode cX10_glass 97 = .ok (.invokevirtual 143, 3) := by decide +kernel
theorem dX10_glass_100 : decode cX10_glass 100 = .ok (.ireturn, 1) := by decide +kernel
theorem dX10_glass_101 : decode cX10_glass 101 = .ok (.aload_n 0, 1) := by decide +kernel
theorem dX10_glass_102 : decode cX10_glass 102 = .ok (.getfield 30, 3) := by decide +kernel
theorem dX10_glass_105 : decode cX10_glass 105 = .ok (.iload_n 1, 1) := by decide +kernel
theorem dX10_glass_106 : decode cX10_glass 106 = .ok (.invokevirtual 146, 3) := by decide +kernel
theorem dX10_glass_109 : decode cX10_glass 109 = .ok (.ireturn, 1) := by decide +kernel
theorem dX10_glass_110 : decode cX10_glass 110 = .ok (.bipush (-2), 2) := by decide +kernel
theorem dX10_glass_112 : decode cX10_glass 112 = .ok (.ireturn, 1) := by decide +kernel
theorem dX10_drinker_0 : decode cX10_drinker 0 = .ok (.aload_n 0, 1) := by decide +kernel
theorem dX10_drinker_1 : decode cX10_drinker 1 = .ok (.getfield 30, 3) := by decide +kernel
theorem dX10_drinker_4 : decode cX10_drinker 4 = .ok (.iload_n 1, 1) := by decide +kernel
theorem dX10_drinker_5 : decode cX10_drinker 5 = .ok (.invokevirtual 149, 3) := by decide +kernel
theorem dX10_drinker_8 : decode cX10_drinker 8 = .ok (.ifCond .ne 5, 3) := by decide +kernel
theorem dX10_drinker_11 : decode cX10_drinker 11 = .ok (.iconst (-1), 1) := by decide +kernel
theorem dX10_drinker_12 : decode cX10_drinker 12 = .ok (.ireturn, 1) := by decide +kernel
theorem dX10_drinker_13 : decode cX10_drinker 13 = .ok (.iload_n 2, 1) := by decide +kernel
theorem dX10_drinker_14 : decode cX10_drinker 14 = .ok (.tableswitch 69 0 3 #[30, 40, 50, 60], 30) := by decide +kernel
theorem dX10_drinker_44 : decode cX10_drinker 44 = .ok (.aload_n 0, 1) := by decide +kernel
theorem dX10_drinker_45 : decode cX10_drinker 45 = .ok (.getfield 38, 3) := by decide +kernel
theorem dX10_drinker_48 : decode cX10_drinker 48 = .ok (.getfield 152, 3) := by decide +kernel
theorem dX10_drinker_51 : decode cX10_drinker 51 = .ok (.iload_n 1, 1) := by decide +kernel
theorem dX10_drinker_52 : decode cX10_drinker 52 = .ok (.iaload, 1) := by decide +kernel
theorem dX10_drinker_53 : decode cX10_drinker 53 = .ok (.ireturn, 1) := by decide +kernel
theorem dX10_drinker_54 : decode cX10_drinker 54 = .ok (.aload_n 0, 1) := by decide +kernel
theorem dX10_drinker_55 : decode cX10_drinker 55 = .ok (.getfield 30, 3) := by decide +kernel
theorem dX10_drinker_58 : decode cX10_drinker 58 = .ok (.getfield 155, 3) := by decide +kernel
theorem dX10_drinker_61 : decode cX10_drinker 61 = .ok (.iload_n 1, 1) := by decide +kernel
theorem dX10_drinker_62 : decode cX10_drinker 62 = .ok (.iaload, 1) := by decide +kernel
theorem dX10_drinker_63 : decode cX10_drinker 63 = .ok (.ireturn, 1) := by decide +kernel
theorem dX10_drinker_64 : decode cX10_drinker 64 = .ok (.aload_n 0, 1) := by decide +kernel
theorem dX10_drinker_65 : decode cX10_drinker 65 = .ok (.getfield 30, 3) := by decide +kernel
theorem dX10_drinker_68 : decode cX10_drinker 68 = .ok (.getfield 158, 3) := by decide +kernel
theorem dX10_drinker_71 : decode cX10_drinker 71 = .ok (.iload_n 1, 1) := by decide +kernel
theorem dX10_drinker_72 : decode cX10_drinker 72 = .ok (.iaload, 1) := by decide +kernel
theorem dX10_drinker_73 : decode cX10_drinker 73 = .ok (.ireturn, 1) := by decide +kernel
theorem dX10_drinker_74 : decode cX10_drinker 74 = .ok (.aload_n 0, 1) := by decide +kernel
theorem dX10_drinker_75 : decode cX10_drinker 75 = .ok (.getfield 38, 3) := by decide +kernel
theorem dX10_drinker_78 : decode cX10_drinker 78 = .ok (.iload_n 1, 1) := by decide +kernel
theorem dX10_drinker_79 : decode cX10_drinker 79 = .ok (.invokevirtual 161, 3) := by decide +kernel
theorem dX10_drinker_82 : decode cX10_drinker 82 = .ok (.ireturn, 1) := by decide +kernel
theorem dX10_drinker_83 : decode cX10_drinker 83 = .ok (.bipush (-2), 2) := by decide +kernel
theorem dX10_drinker_85 : decode cX10_drinker 85 = .ok (.ireturn, 1) := by decide +kernel
theorem dX10_pour_0 : decode cX10_pour 0 = .ok (.aload_n 0, 1) := by decide +kernel
theorem dX10_pour_1 : decode cX10_pour 1 = .ok (.getfield 42, 3) := by decide +kernel
theorem dX10_pour_4 : decode cX10_pour 4 = .ok (.aload_n 0, 1) := by decide +kernel
theorem dX10_pour_5 : decode cX10_pour 5 = .ok (.getfield 38, 3) := by decide +kernel
theorem dX10_pour_8 : decode cX10_pour 8 = .ok (.invokevirtual 164, 3) := by decide +kernel
theorem dX10_pour_11 : decode cX10_pour 11 = .ok (.aload_n 0, 1) := by decide +kernel
theorem dX10_pour_12 : decode cX10_pour 12 = .ok (.aload_n 0, 1) := by decide +kernel
theorem dX10_pour_13 : decode cX10_pour 13 = .ok (.getfield 38, 3) := by decide +kernel
theorem dX10_pour_16 : decode cX10_pour 16 = .ok (.iload_n 1, 1) := by decide +kernel
theorem dX10_pour_17 : decode cX10_pour 17 = .ok (.iload_n 2, 1) := by decide +kernel
theorem dX10_pour_18 : decode cX10_pour 18 = .ok (.invokevirtual 167, 3) := by decide +kernel
theorem dX10_pour_21 : decode cX10_pour 21 = .ok (.invokevirtual 171, 3) := by decide +kernel
theorem dX10_pour_24 : decode cX10_pour 24 = .ok (.ireturn, 1) := by decide +kernel
theorem dX10_drink_0 : decode cX10_drink 0 = .ok (.aload_n 0, 1) := by decide +kernel
theorem dX10_drink_1 : decode cX10_drink 1 = .ok (.getfield 42, 3) := by decide +kernel
theorem dX10_drink_4 : decode cX10_drink 4 = .ok (.aload_n 0, 1) := by decide +kernel
theorem dX10_drink_5 : decode cX10_drink 5 = .ok (.getfield 38, 3) := by decide +kernel
theorem dX10_drink_8 : decode cX10_drink 8 = .ok (.invokevirtual 164, 3) := by decide +kernel
theorem dX10_drink_11 : decode cX10_drink 11 = .ok (.aload_n 0, 1) := by decide +kernel
theorem dX10_drink_12 : decode cX10_drink 12 = .ok (.aload_n 0, 1) := by decide +kernel
theorem dX10_drink_13 : decode cX10_drink 13 = .ok (.getfield 38, 3) := by decide +kernel
theorem dX10_drink_16 : decode cX10_drink 16 = .ok (.iload_n 1, 1) := by decide +kernel
theorem dX10_drink_17 : decode cX10_drink 17 = .ok (.iload_n 2, 1) := by decide +kernel
theorem dX10_drink_18 : decode cX10_drink 18 = .ok (.invokevirtual 174, 3) := by decide +kernel
theorem dX10_drink_21 : decode cX10_drink 21 = .ok (.invokevirtual 171, 3) := by decide +kernel
theorem dX10_drink_24 : decode cX10_drink 24 = .ok (.ireturn, 1) := by decide +kernel
theorem dX10_tip_0 : decode cX10_tip 0 = .ok (.aload_n 0, 1) := by decide +kernel
theorem dX10_tip_1 : decode cX10_tip 1 = .ok (.getfield 42, 3) := by decide +kernel
theorem dX10_tip_4 : decode cX10_tip 4 = .ok (.aload_n 0, 1) := by decide +kernel
theorem dX10_tip_5 : decode cX10_tip 5 = .ok (.getfield 38, 3) := by decide +kernel
theorem dX10_tip_8 : decode cX10_tip 8 = .ok (.invokevirtual 164, 3) := by decide +kernel
theorem dX10_tip_11 : decode cX10_tip 11 = .ok (.aload_n 0, 1) := by decide +kernel
theorem dX10_tip_12 : decode cX10_tip 12 = .ok (.aload_n 0, 1) := by decide +kernel
theorem dX10_tip_13 : decode cX10_tip 13 = .ok (.getfield 38, 3) := by decide +kernel
theorem dX10_tip_16 : decode cX10_tip 16 = .ok (.iload_n 1, 1) := by decide +kernel
theorem dX10_tip_17 : decode cX10_tip 17 = .ok (.iload_n 2, 1) := by decide +kernel
theorem dX10_tip_18 : decode cX10_tip 18 = .ok (.invokevirtual 177, 3) := by decide +kernel
theorem dX10_tip_21 : decode cX10_tip 21 = .ok (.invokevirtual 171, 3) := by decide +kernel
theorem dX10_tip_24 : decode cX10_tip 24 = .ok (.ireturn, 1) := by decide +kernel
theorem dX10_hour_0 : decode cX10_hour 0 = .ok (.aload_n 0, 1) := by decide +kernel
theorem dX10_hour_1 : decode cX10_hour 1 = .ok (.getfield 42, 3) := by decide +kernel
theorem dX10_hour_4 : decode cX10_hour 4 = .ok (.aload_n 0, 1) := by decide +kernel
theorem dX10_hour_5 : decode cX10_hour 5 = .ok (.getfield 38, 3) := by decide +kernel
theorem dX10_hour_8 : decode cX10_hour 8 = .ok (.invokevirtual 164, 3) := by decide +kernel
theorem dX10_hour_11 : decode cX10_hour 11 = .ok (.aload_n 0, 1) := by decide +kernel
theorem dX10_hour_12 : decode cX10_hour 12 = .ok (.aload_n 0, 1) := by decide +kernel
theorem dX10_hour_13 : decode cX10_hour 13 = .ok (.getfield 38, 3) := by decide +kernel
theorem dX10_hour_16 : decode cX10_hour 16 = .ok (.invokevirtual 180, 3) := by decide +kernel
theorem dX10_hour_19 : decode cX10_hour 19 = .ok (.invokevirtual 171, 3) := by decide +kernel
theorem dX10_hour_22 : decode cX10_hour 22 = .ok (.ireturn, 1) := by decide +kernel
theorem dX10_acted_0 : decode cX10_acted 0 = .ok (.iload_n 1, 1) := by decide +kernel
theorem dX10_acted_1 : decode cX10_acted 1 = .ok (.ifCond .lt 14, 3) := by decide +kernel
theorem dX10_acted_4 : decode cX10_acted 4 = .ok (.aload_n 0, 1) := by decide +kernel
theorem dX10_acted_5 : decode cX10_acted 5 = .ok (.getfield 51, 3) := by decide +kernel
theorem dX10_acted_8 : decode cX10_acted 8 = .ok (.aload_n 0, 1) := by decide +kernel
theorem dX10_acted_9 : decode cX10_acted 9 = .ok (.getfield 42, 3) := by decide +kernel
theorem dX10_acted_12 : decode cX10_acted 12 = .ok (.invokevirtual 184, 3) := by decide +kernel
theorem dX10_acted_15 : decode cX10_acted 15 = .ok (.iload_n 1, 1) := by decide +kernel
theorem dX10_acted_16 : decode cX10_acted 16 = .ok (.ireturn, 1) := by decide +kernel
theorem dX10_undo_0 : decode cX10_undo 0 = .ok (.aload_n 0, 1) := by decide +kernel
theorem dX10_undo_1 : decode cX10_undo 1 = .ok (.getfield 51, 3) := by decide +kernel
theorem dX10_undo_4 : decode cX10_undo 4 = .ok (.getfield 187, 3) := by decide +kernel
theorem dX10_undo_7 : decode cX10_undo 7 = .ok (.ifCond .ne 6, 3) := by decide +kernel
theorem dX10_undo_10 : decode cX10_undo 10 = .ok (.bipush (-3), 2) := by decide +kernel
theorem dX10_undo_12 : decode cX10_undo 12 = .ok (.ireturn, 1) := by decide +kernel
theorem dX10_undo_13 : decode cX10_undo 13 = .ok (.aload_n 0, 1) := by decide +kernel
theorem dX10_undo_14 : decode cX10_undo 14 = .ok (.getfield 51, 3) := by decide +kernel
theorem dX10_undo_17 : decode cX10_undo 17 = .ok (.aload_n 0, 1) := by decide +kernel
theorem dX10_undo_18 : decode cX10_undo 18 = .ok (.getfield 38, 3) := by decide +kernel
theorem dX10_undo_21 : decode cX10_undo 21 = .ok (.invokevirtual 190, 3) := by decide +kernel
theorem dX10_undo_24 : decode cX10_undo 24 = .ok (.aload_n 0, 1) := by decide +kernel
theorem dX10_undo_25 : decode cX10_undo 25 = .ok (.getfield 51, 3) := by decide +kernel
theorem dX10_undo_28 : decode cX10_undo 28 = .ok (.getfield 187, 3) := by decide +kernel
theorem dX10_undo_31 : decode cX10_undo 31 = .ok (.ireturn, 1) := by decide +kernel
theorem dX10_left_0 : decode cX10_left 0 = .ok (.aload_n 0, 1) := by decide +kernel
theorem dX10_left_1 : decode cX10_left 1 = .ok (.getfield 30, 3) := by decide +kernel
theorem dX10_left_4 : decode cX10_left 4 = .ok (.iload_n 1, 1) := by decide +kernel
theorem dX10_left_5 : decode cX10_left 5 = .ok (.invokevirtual 126, 3) := by decide +kernel
theorem dX10_left_8 : decode cX10_left 8 = .ok (.ifCond .ne 5, 3) := by decide +kernel
theorem dX10_left_11 : decode cX10_left 11 = .ok (.iconst (-1), 1) := by decide +kernel
theorem dX10_left_12 : decode cX10_left 12 = .ok (.ireturn, 1) := by decide +kernel
theorem dX10_left_13 : decode cX10_left 13 = .ok (.aload_n 0, 1) := by decide +kernel
theorem dX10_left_14 : decode cX10_left 14 = .ok (.getfield 45, 3) := by decide +kernel
theorem dX10_left_17 : decode cX10_left 17 = .ok (.aload_n 0, 1) := by decide +kernel
theorem dX10_left_18 : decode cX10_left 18 = .ok (.getfield 38, 3) := by decide +kernel
theorem dX10_left_21 : decode cX10_left 21 = .ok (.invokevirtual 164, 3) := by decide +kernel
theorem dX10_left_24 : decode cX10_left 24 = .ok (.aload_n 0, 1) := by decide +kernel
theorem dX10_left_25 : decode cX10_left 25 = .ok (.getfield 45, 3) := by decide +kernel
theorem dX10_left_28 : decode cX10_left 28 = .ok (.bipush 15, 2) := by decide +kernel
theorem dX10_left_30 : decode cX10_left 30 = .ok (.invokevirtual 193, 3) := by decide +kernel
theorem dX10_left_33 : decode cX10_left 33 = .ok (.aload_n 0, 1) := by decide +kernel
theorem dX10_left_34 : decode cX10_left 34 = .ok (.getfield 45, 3) := by decide +kernel
theorem dX10_left_37 : decode cX10_left 37 = .ok (.getfield 134, 3) := by decide +kernel
theorem dX10_left_40 : decode cX10_left 40 = .ok (.iload_n 1, 1) := by decide +kernel
theorem dX10_left_41 : decode cX10_left 41 = .ok (.iaload, 1) := by decide +kernel
theorem dX10_left_42 : decode cX10_left 42 = .ok (.ireturn, 1) := by decide +kernel
theorem dX10_evening_0 : decode cX10_evening 0 = .ok (.iload_n 1, 1) := by decide +kernel
theorem dX10_evening_1 : decode cX10_evening 1 = .ok (.ifCond .lt 8, 3) := by decide +kernel
theorem dX10_evening_4 : decode cX10_evening 4 = .ok (.iload_n 1, 1) := by decide +kernel
theorem dX10_evening_5 : decode cX10_evening 5 = .ok (.iconst 1, 1) := by decide +kernel
theorem dX10_evening_6 : decode cX10_evening 6 = .ok (.if_icmp .le 6, 3) := by decide +kernel
theorem dX10_evening_9 : decode cX10_evening 9 = .ok (.bipush (-2), 2) := by decide +kernel
theorem dX10_evening_11 : decode cX10_evening 11 = .ok (.ireturn, 1) := by decide +kernel
theorem dX10_evening_12 : decode cX10_evening 12 = .ok (.aload_n 0, 1) := by decide +kernel
theorem dX10_evening_13 : decode cX10_evening 13 = .ok (.getfield 45, 3) := by decide +kernel
theorem dX10_evening_16 : decode cX10_evening 16 = .ok (.aload_n 0, 1) := by decide +kernel
theorem dX10_evening_17 : decode cX10_evening 17 = .ok (.getfield 38, 3) := by decide +kernel
theorem dX10_evening_20 : decode cX10_evening 20 = .ok (.invokevirtual 164, 3) := by decide +kernel
theorem dX10_evening_23 : decode cX10_evening 23 = .ok (.aload_n 0, 1) := by decide +kernel
theorem dX10_evening_24 : decode cX10_evening 24 = .ok (.getfield 45, 3) := by decide +kernel
theorem dX10_evening_27 : decode cX10_evening 27 = .ok (.bipush 15, 2) := by decide +kernel
theorem dX10_evening_29 : decode cX10_evening 29 = .ok (.invokevirtual 193, 3) := by decide +kernel
theorem dX10_evening_32 : decode cX10_evening 32 = .ok (.iload_n 1, 1) := by decide +kernel
theorem dX10_evening_33 : decode cX10_evening 33 = .ok (.ifCond .ne 13, 3) := by decide +kernel
theorem dX10_evening_36 : decode cX10_evening 36 = .ok (.aload_n 0, 1) := by decide +kernel
theorem dX10_evening_37 : decode cX10_evening 37 = .ok (.getfield 45, 3) := by decide +kernel
theorem dX10_evening_40 : decode cX10_evening 40 = .ok (.invokevirtual 196, 3) := by decide +kernel
theorem dX10_evening_43 : decode cX10_evening 43 = .ok (.goto 10, 3) := by decide +kernel
theorem dX10_evening_46 : decode cX10_evening 46 = .ok (.aload_n 0, 1) := by decide +kernel
theorem dX10_evening_47 : decode cX10_evening 47 = .ok (.getfield 45, 3) := by decide +kernel
theorem dX10_evening_50 : decode cX10_evening 50 = .ok (.invokevirtual 199, 3) := by decide +kernel
theorem dX10_evening_53 : decode cX10_evening 53 = .ok (.ireturn, 1) := by decide +kernel
theorem dX10_pouring_0 : decode cX10_pouring 0 = .ok (.iload_n 1, 1) := by decide +kernel
theorem dX10_pouring_1 : decode cX10_pouring 1 = .ok (.ifCond .lt 9, 3) := by decide +kernel
theorem dX10_pouring_4 : decode cX10_pouring 4 = .ok (.iload_n 1, 1) := by decide +kernel
theorem dX10_pouring_5 : decode cX10_pouring 5 = .ok (.bipush 9, 2) := by decide +kernel
theorem dX10_pouring_7 : decode cX10_pouring 7 = .ok (.if_icmp .le 6, 3) := by decide +kernel
theorem dX10_pouring_10 : decode cX10_pouring 10 = .ok (.bipush (-2), 2) := by decide +kernel
theorem dX10_pouring_12 : decode cX10_pouring 12 = .ok (.ireturn, 1) := by decide +kernel
theorem dX10_pouring_13 : decode cX10_pouring 13 = .ok (.aload_n 0, 1) := by decide +kernel
theorem dX10_pouring_14 : decode cX10_pouring 14 = .ok (.getfield 76, 3) := by decide +kernel
theorem dX10_pouring_17 : decode cX10_pouring 17 = .ok (.invokevirtual 202, 3) := by decide +kernel
theorem dX10_pouring_20 : decode cX10_pouring 20 = .ok (.aload_n 0, 1) := by decide +kernel
theorem dX10_pouring_21 : decode cX10_pouring 21 = .ok (.getfield 76, 3) := by decide +kernel
theorem dX10_pouring_24 : decode cX10_pouring 24 = .ok (.iconst 0, 1) := by decide +kernel
theorem dX10_pouring_25 : decode cX10_pouring 25 = .ok (.iload_n 1, 1) := by decide +kernel
theorem dX10_pouring_26 : decode cX10_pouring 26 = .ok (.iconst 0, 1) := by decide +kernel
theorem dX10_pouring_27 : decode cX10_pouring 27 = .ok (.invokevirtual 205, 3) := by decide +kernel
theorem dX10_pouring_30 : decode cX10_pouring 30 = .ok (.iload_n 2, 1) := by decide +kernel
theorem dX10_pouring_31 : decode cX10_pouring 31 = .ok (.ifCond .eq 13, 3) := by decide +kernel
theorem dX10_pouring_34 : decode cX10_pouring 34 = .ok (.aload_n 0, 1) := by decide +kernel
theorem dX10_pouring_35 : decode cX10_pouring 35 = .ok (.getfield 76, 3) := by decide +kernel
theorem dX10_pouring_38 : decode cX10_pouring 38 = .ok (.getfield 209, 3) := by decide +kernel
theorem dX10_pouring_41 : decode cX10_pouring 41 = .ok (.goto 10, 3) := by decide +kernel
theorem dX10_pouring_44 : decode cX10_pouring 44 = .ok (.aload_n 0, 1) := by decide +kernel
theorem dX10_pouring_45 : decode cX10_pouring 45 = .ok (.getfield 76, 3) := by decide +kernel
theorem dX10_pouring_48 : decode cX10_pouring 48 = .ok (.getfield 212, 3) := by decide +kernel
theorem dX10_pouring_51 : decode cX10_pouring 51 = .ok (.ireturn, 1) := by decide +kernel
theorem dX10_wake_0 : decode cX10_wake 0 = .ok (.aload_n 0, 1) := by decide +kernel
theorem dX10_wake_1 : decode cX10_wake 1 = .ok (.getfield 76, 3) := by decide +kernel
theorem dX10_wake_4 : decode cX10_wake 4 = .ok (.invokevirtual 215, 3) := by decide +kernel
theorem dX10_wake_7 : decode cX10_wake 7 = .ok (.ireturn, 1) := by decide +kernel
theorem dX10_order_0 : decode cX10_order 0 = .ok (.aload_n 0, 1) := by decide +kernel
theorem dX10_order_1 : decode cX10_order 1 = .ok (.getfield 76, 3) := by decide +kernel
theorem dX10_order_4 : decode cX10_order 4 = .ok (.invokevirtual 202, 3) := by decide +kernel
theorem dX10_order_7 : decode cX10_order 7 = .ok (.aload_n 0, 1) := by decide +kernel
theorem dX10_order_8 : decode cX10_order 8 = .ok (.getfield 76, 3) := by decide +kernel
theorem dX10_order_11 : decode cX10_order 11 = .ok (.iconst 0, 1) := by decide +kernel
theorem dX10_order_12 : decode cX10_order 12 = .ok (.iconst 0, 1) := by decide +kernel
theorem dX10_order_13 : decode cX10_order 13 = .ok (.iconst 0, 1) := by decide +kernel
theorem dX10_order_14 : decode cX10_order 14 = .ok (.invokevirtual 218, 3) := by decide +kernel
theorem dX10_order_17 : decode cX10_order 17 = .ok (.iload_n 1, 1) := by decide +kernel
theorem dX10_order_18 : decode cX10_order 18 = .ok (.ifCond .eq 13, 3) := by decide +kernel
theorem dX10_order_21 : decode cX10_order 21 = .ok (.aload_n 0, 1) := by decide +kernel
theorem dX10_order_22 : decode cX10_order 22 = .ok (.getfield 76, 3) := by decide +kernel
theorem dX10_order_25 : decode cX10_order 25 = .ok (.getfield 209, 3) := by decide +kernel
theorem dX10_order_28 : decode cX10_order 28 = .ok (.goto 10, 3) := by decide +kernel
theorem dX10_order_31 : decode cX10_order 31 = .ok (.aload_n 0, 1) := by decide +kernel
theorem dX10_order_32 : decode cX10_order 32 = .ok (.getfield 76, 3) := by decide +kernel
theorem dX10_order_35 : decode cX10_order 35 = .ok (.getfield 212, 3) := by decide +kernel
theorem dX10_order_38 : decode cX10_order 38 = .ok (.ireturn, 1) := by decide +kernel
theorem dX10_hall_0 : decode cX10_hall 0 = .ok (.iload_n 1, 1) := by decide +kernel
theorem dX10_hall_1 : decode cX10_hall 1 = .ok (.ifCond .lt 9, 3) := by decide +kernel
theorem dX10_hall_4 : decode cX10_hall 4 = .ok (.iload_n 1, 1) := by decide +kernel
theorem dX10_hall_5 : decode cX10_hall 5 = .ok (.bipush 9, 2) := by decide +kernel
theorem dX10_hall_7 : decode cX10_hall 7 = .ok (.if_icmp .le 6, 3) := by decide +kernel
theorem dX10_hall_10 : decode cX10_hall 10 = .ok (.bipush (-2), 2) := by decide +kernel
theorem dX10_hall_12 : decode cX10_hall 12 = .ok (.ireturn, 1) := by decide +kernel
theorem dX10_hall_13 : decode cX10_hall 13 = .ok (.aload_n 0, 1) := by decide +kernel
theorem dX10_hall_14 : decode cX10_hall 14 = .ok (.getfield 45, 3) := by decide +kernel
theorem dX10_hall_17 : decode cX10_hall 17 = .ok (.aload_n 0, 1) := by decide +kernel
theorem dX10_hall_18 : decode cX10_hall 18 = .ok (.getfield 38, 3) := by decide +kernel
theorem dX10_hall_21 : decode cX10_hall 21 = .ok (.invokevirtual 164, 3) := by decide +kernel
theorem dX10_hall_24 : decode cX10_hall 24 = .ok (.iconst 0, 1) := by decide +kernel
theorem dX10_hall_25 : decode cX10_hall 25 = .ok (.istore_n 2, 1) := by decide +kernel
theorem dX10_hall_26 : decode cX10_hall 26 = .ok (.iload_n 2, 1) := by decide +kernel
theorem dX10_hall_27 : decode cX10_hall 27 = .ok (.iload_n 1, 1) := by decide +kernel
theorem dX10_hall_28 : decode cX10_hall 28 = .ok (.if_icmp .ge 17, 3) := by decide +kernel
theorem dX10_hall_31 : decode cX10_hall 31 = .ok (.aload_n 0, 1) := by decide +kernel
theorem dX10_hall_32 : decode cX10_hall 32 = .ok (.getfield 45, 3) := by decide +kernel
theorem dX10_hall_35 : decode cX10_hall 35 = .ok (.invokevirtual 180, 3) := by decide +kernel
theorem dX10_hall_38 : decode cX10_hall 38 = .ok (.pop, 1) := by decide +kernel
theorem dX10_hall_39 : decode cX10_hall 39 = .ok (.iinc 2 1, 3) := by decide +kernel
theorem dX10_hall_42 : decode cX10_hall 42 = .ok (.goto (-16), 3) := by decide +kernel
theorem dX10_hall_45 : decode cX10_hall 45 = .ok (.aload_n 0, 1) := by decide +kernel
theorem dX10_hall_46 : decode cX10_hall 46 = .ok (.getfield 45, 3) := by decide +kernel
theorem dX10_hall_49 : decode cX10_hall 49 = .ok (.invokevirtual 196, 3) := by decide +kernel
theorem dX10_hall_52 : decode cX10_hall 52 = .ok (.ireturn, 1) := by decide +kernel
theorem dX10_judge_0 : decode cX10_judge 0 = .ok (.iload_n 1, 1) := by decide +kernel
theorem dX10_judge_1 : decode cX10_judge 1 = .ok (.iconst 1, 1) := by decide +kernel
theorem dX10_judge_2 : decode cX10_judge 2 = .ok (.if_icmp .lt 8, 3) := by decide +kernel
theorem dX10_judge_5 : decode cX10_judge 5 = .ok (.iload_n 1, 1) := by decide +kernel
theorem dX10_judge_6 : decode cX10_judge 6 = .ok (.iconst 4, 1) := by decide +kernel
theorem dX10_judge_7 : decode cX10_judge 7 = .ok (.if_icmp .le 6, 3) := by decide +kernel
theorem dX10_judge_10 : decode cX10_judge 10 = .ok (.bipush (-2), 2) := by decide +kernel
theorem dX10_judge_12 : decode cX10_judge 12 = .ok (.ireturn, 1) := by decide +kernel
theorem dX10_judge_13 : decode cX10_judge 13 = .ok (.lconst 1, 1) := by decide +kernel
theorem dX10_judge_14 : decode cX10_judge 14 = .ok (.lstore 4, 2) := by decide +kernel
theorem dX10_judge_16 : decode cX10_judge 16 = .ok (.iconst 0, 1) := by decide +kernel
theorem dX10_judge_17 : decode cX10_judge 17 = .ok (.istore 6, 2) := by decide +kernel
theorem dX10_judge_19 : decode cX10_judge 19 = .ok (.iload 6, 2) := by decide +kernel
theorem dX10_judge_21 : decode cX10_judge 21 = .ok (.iload_n 1, 1) := by decide +kernel
theorem dX10_judge_22 : decode cX10_judge 22 = .ok (.if_icmp .ge 17, 3) := by decide +kernel
theorem dX10_judge_25 : decode cX10_judge 25 = .ok (.lload 4, 2) := by decide +kernel
theorem dX10_judge_27 : decode cX10_judge 27 = .ok (.ldc2_w 221, 3) := by decide +kernel
theorem dX10_judge_30 : decode cX10_judge 30 = .ok (.lmul, 1) := by decide +kernel
theorem dX10_judge_31 : decode cX10_judge 31 = .ok (.lstore 4, 2) := by decide +kernel
theorem dX10_judge_33 : decode cX10_judge 33 = .ok (.iinc 6 1, 3) := by decide +kernel
theorem dX10_judge_36 : decode cX10_judge 36 = .ok (.goto (-17), 3) := by decide +kernel
theorem dX10_judge_39 : decode cX10_judge 39 = .ok (.lload_n 2, 1) := by decide +kernel
theorem dX10_judge_40 : decode cX10_judge 40 = .ok (.lconst 0, 1) := by decide +kernel
theorem dX10_judge_41 : decode cX10_judge 41 = .ok (.lcmp, 1) := by decide +kernel
theorem dX10_judge_42 : decode cX10_judge 42 = .ok (.ifCond .lt 10, 3) := by decide +kernel
theorem dX10_judge_45 : decode cX10_judge 45 = .ok (.lload_n 2, 1) := by decide +kernel
theorem dX10_judge_46 : decode cX10_judge 46 = .ok (.lload 4, 2) := by decide +kernel
theorem dX10_judge_48 : decode cX10_judge 48 = .ok (.lcmp, 1) := by decide +kernel
theorem dX10_judge_49 : decode cX10_judge 49 = .ok (.ifCond .lt 6, 3) := by decide +kernel
theorem dX10_judge_52 : decode cX10_judge 52 = .ok (.bipush (-2), 2) := by decide +kernel
theorem dX10_judge_54 : decode cX10_judge 54 = .ok (.ireturn, 1) := by decide +kernel
theorem dX10_judge_55 : decode cX10_judge 55 = .ok (.aload_n 0, 1) := by decide +kernel
theorem dX10_judge_56 : decode cX10_judge 56 = .ok (.getfield 45, 3) := by decide +kernel
theorem dX10_judge_59 : decode cX10_judge 59 = .ok (.aload_n 0, 1) := by decide +kernel
theorem dX10_judge_60 : decode cX10_judge 60 = .ok (.getfield 38, 3) := by decide +kernel
theorem dX10_judge_63 : decode cX10_judge 63 = .ok (.invokevirtual 164, 3) := by decide +kernel
theorem dX10_judge_66 : decode cX10_judge 66 = .ok (.iconst 0, 1) := by decide +kernel
theorem dX10_judge_67 : decode cX10_judge 67 = .ok (.istore 6, 2) := by decide +kernel
theorem dX10_judge_69 : decode cX10_judge 69 = .ok (.iload 6, 2) := by decide +kernel
theorem dX10_judge_71 : decode cX10_judge 71 = .ok (.iload_n 1, 1) := by decide +kernel
theorem dX10_judge_72 : decode cX10_judge 72 = .ok (.if_icmp .ge 43, 3) := by decide +kernel
theorem dX10_judge_75 : decode cX10_judge 75 = .ok (.lconst 1, 1) := by decide +kernel
theorem dX10_judge_76 : decode cX10_judge 76 = .ok (.lload 4, 2) := by decide +kernel
theorem dX10_judge_78 : decode cX10_judge 78 = .ok (.ldc2_w 221, 3) := by decide +kernel
theorem dX10_judge_81 : decode cX10_judge 81 = .ok (.ldiv, 1) := by decide +kernel
theorem dX10_judge_82 : decode cX10_judge 82 = .ok (.invokestatic 223, 3) := by decide +kernel
theorem dX10_judge_85 : decode cX10_judge 85 = .ok (.lstore 4, 2) := by decide +kernel
theorem dX10_judge_87 : decode cX10_judge 87 = .ok (.aload_n 0, 1) := by decide +kernel
theorem dX10_judge_88 : decode cX10_judge 88 = .ok (.getfield 45, 3) := by decide +kernel
theorem dX10_judge_91 : decode cX10_judge 91 = .ok (.lload_n 2, 1) := by decide +kernel
theorem dX10_judge_92 : decode cX10_judge 92 = .ok (.lload 4, 2) := by decide +kernel
theorem dX10_judge_94 : decode cX10_judge 94 = .ok (.ldiv, 1) := by decide +kernel
theorem dX10_judge_95 : decode cX10_judge 95 = .ok (.ldc2_w 221, 3) := by decide +kernel
theorem dX10_judge_98 : decode cX10_judge 98 = .ok (.lrem, 1) := by decide +kernel
theorem dX10_judge_99 : decode cX10_judge 99 = .ok (.l2i, 1) := by decide +kernel
theorem dX10_judge_100 : decode cX10_judge 100 = .ok (.invokevirtual 229, 3) := by decide +kernel
theorem dX10_judge_103 : decode cX10_judge 103 = .ok (.ifCond .ge 6, 3) := by decide +kernel
theorem dX10_judge_106 : decode cX10_judge 106 = .ok (.iload 6, 2) := by decide +kernel
theorem dX10_judge_108 : decode cX10_judge 108 = .ok (.ireturn, 1) := by decide +kernel
theorem dX10_judge_109 : decode cX10_judge 109 = .ok (.iinc 6 1, 3) := by decide +kernel
theorem dX10_judge_112 : decode cX10_judge 112 = .ok (.goto (-43), 3) := by decide +kernel
theorem dX10_judge_115 : decode cX10_judge 115 = .ok (.bipush (-9), 2) := by decide +kernel
theorem dX10_judge_117 : decode cX10_judge 117 = .ok (.ireturn, 1) := by decide +kernel
theorem dX10_see_0 : decode cX10_see 0 = .ok (.aload_n 0, 1) := by decide +kernel
theorem dX10_see_1 : decode cX10_see 1 = .ok (.getfield 30, 3) := by decide +kernel
theorem dX10_see_4 : decode cX10_see 4 = .ok (.iload_n 1, 1) := by decide +kernel
theorem dX10_see_5 : decode cX10_see 5 = .ok (.invokevirtual 149, 3) := by decide +kernel
theorem dX10_see_8 : decode cX10_see 8 = .ok (.ifCond .ne 5, 3) := by decide +kernel
theorem dX10_see_11 : decode cX10_see 11 = .ok (.iconst (-1), 1) := by decide +kernel
theorem dX10_see_12 : decode cX10_see 12 = .ok (.ireturn, 1) := by decide +kernel
theorem dX10_see_13 : decode cX10_see 13 = .ok (.iload_n 2, 1) := by decide +kernel
theorem dX10_see_14 : decode cX10_see 14 = .ok (.ifCond .lt 18, 3) := by decide +kernel
theorem dX10_see_17 : decode cX10_see 17 = .ok (.iload_n 2, 1) := by decide +kernel
theorem dX10_see_18 : decode cX10_see 18 = .ok (.bipush 9, 2) := by decide +kernel
theorem dX10_see_20 : decode cX10_see 20 = .ok (.if_icmp .gt 12, 3) := by decide +kernel
theorem dX10_see_23 : decode cX10_see 23 = .ok (.iload_n 3, 1) := by decide +kernel
theorem dX10_see_24 : decode cX10_see 24 = .ok (.ifCond .lt 8, 3) := by decide +kernel
theorem dX10_see_27 : decode cX10_see 27 = .ok (.iload_n 3, 1) := by decide +kernel
theorem dX10_see_28 : decode cX10_see 28 = .ok (.iload_n 2, 1) := by decide +kernel
theorem dX10_see_29 : decode cX10_see 29 = .ok (.if_icmp .le 6, 3) := by decide +kernel
theorem dX10_see_32 : decode cX10_see 32 = .ok (.bipush (-2), 2) := by decide +kernel
theorem dX10_see_34 : decode cX10_see 34 = .ok (.ireturn, 1) := by decide +kernel
theorem dX10_see_35 : decode cX10_see 35 = .ok (.aload_n 0, 1) := by decide +kernel
theorem dX10_see_36 : decode cX10_see 36 = .ok (.getfield 67, 3) := by decide +kernel
theorem dX10_see_39 : decode cX10_see 39 = .ok (.iload_n 1, 1) := by decide +kernel
theorem dX10_see_40 : decode cX10_see 40 = .ok (.iload_n 2, 1) := by decide +kernel
theorem dX10_see_41 : decode cX10_see 41 = .ok (.iload_n 3, 1) := by decide +kernel
theorem dX10_see_42 : decode cX10_see 42 = .ok (.invokevirtual 232, 3) := by decide +kernel
theorem dX10_see_45 : decode cX10_see 45 = .ok (.ireturn, 1) := by decide +kernel
theorem dX10_unsee_0 : decode cX10_unsee 0 = .ok (.aload_n 0, 1) := by decide +kernel
theorem dX10_unsee_1 : decode cX10_unsee 1 = .ok (.getfield 67, 3) := by decide +kernel
theorem dX10_unsee_4 : decode cX10_unsee 4 = .ok (.getfield 235, 3) := by decide +kernel
theorem dX10_unsee_7 : decode cX10_unsee 7 = .ok (.istore_n 1, 1) := by decide +kernel
theorem dX10_unsee_8 : decode cX10_unsee 8 = .ok (.aload_n 0, 1) := by decide +kernel
theorem dX10_unsee_9 : decode cX10_unsee 9 = .ok (.getfield 67, 3) := by decide +kernel
theorem dX10_unsee_12 : decode cX10_unsee 12 = .ok (.iconst 0, 1) := by decide +kernel
theorem dX10_unsee_13 : decode cX10_unsee 13 = .ok (.putfield 235, 3) := by decide +kernel
theorem dX10_unsee_16 : decode cX10_unsee 16 = .ok (.iload_n 1, 1) := by decide +kernel
theorem dX10_unsee_17 : decode cX10_unsee 17 = .ok (.ireturn, 1) := by decide +kernel
theorem dX10_thirsts_0 : decode cX10_thirsts 0 = .ok (.aload_n 0, 1) := by decide +kernel
theorem dX10_thirsts_1 : decode cX10_thirsts 1 = .ok (.getfield 30, 3) := by decide +kernel
theorem dX10_thirsts_4 : decode cX10_thirsts 4 = .ok (.iload_n 1, 1) := by decide +kernel
theorem dX10_thirsts_5 : decode cX10_thirsts 5 = .ok (.invokevirtual 149, 3) := by decide +kernel
theorem dX10_thirsts_8 : decode cX10_thirsts 8 = .ok (.ifCond .ne 5, 3) := by decide +kernel
theorem dX10_thirsts_11 : decode cX10_thirsts 11 = .ok (.iconst (-1), 1) := by decide +kernel
theorem dX10_thirsts_12 : decode cX10_thirsts 12 = .ok (.ireturn, 1) := by decide +kernel
theorem dX10_thirsts_13 : decode cX10_thirsts 13 = .ok (.aload_n 0, 1) := by decide +kernel
theorem dX10_thirsts_14 : decode cX10_thirsts 14 = .ok (.getfield 67, 3) := by decide +kernel
theorem dX10_thirsts_17 : decode cX10_thirsts 17 = .ok (.iload_n 1, 1) := by decide +kernel
theorem dX10_thirsts_18 : decode cX10_thirsts 18 = .ok (.aload_n 0, 1) := by decide +kernel
theorem dX10_thirsts_19 : decode cX10_thirsts 19 = .ok (.getfield 30, 3) := by decide +kernel
theorem dX10_thirsts_22 : decode cX10_thirsts 22 = .ok (.getfield 155, 3) := by decide +kernel
theorem dX10_thirsts_25 : decode cX10_thirsts 25 = .ok (.iload_n 1, 1) := by decide +kernel
theorem dX10_thirsts_26 : decode cX10_thirsts 26 = .ok (.iaload, 1) := by decide +kernel
theorem dX10_thirsts_27 : decode cX10_thirsts 27 = .ok (.invokevirtual 236, 3) := by decide +kernel
theorem dX10_thirsts_30 : decode cX10_thirsts 30 = .ok (.ireturn, 1) := by decide +kernel
theorem dX10_share_0 : decode cX10_share 0 = .ok (.aload_n 0, 1) := by decide +kernel
theorem dX10_share_1 : decode cX10_share 1 = .ok (.getfield 30, 3) := by decide +kernel
theorem dX10_share_4 : decode cX10_share 4 = .ok (.iload_n 1, 1) := by decide +kernel
theorem dX10_share_5 : decode cX10_share 5 = .ok (.invokevirtual 149, 3) := by decide +kernel
theorem dX10_share_8 : decode cX10_share 8 = .ok (.ifCond .ne 5, 3) := by decide +kernel
theorem dX10_share_11 : decode cX10_share 11 = .ok (.iconst (-1), 1) := by decide +kernel
theorem dX10_share_12 : decode cX10_share 12 = .ok (.ireturn, 1) := by decide +kernel
theorem dX10_share_13 : decode cX10_share 13 = .ok (.aload_n 0, 1) := by decide +kernel
theorem dX10_share_14 : decode cX10_share 14 = .ok (.getfield 83, 3) := by decide +kernel
theorem dX10_share_17 : decode cX10_share 17 = .ok (.iload_n 1, 1) := by decide +kernel
theorem dX10_share_18 : decode cX10_share 18 = .ok (.iload_n 2, 1) := by decide +kernel
theorem dX10_share_19 : decode cX10_share 19 = .ok (.invokevirtual 239, 3) := by decide +kernel
theorem dX10_share_22 : decode cX10_share 22 = .ok (.ireturn, 1) := by decide +kernel
theorem dX10_rests_0 : decode cX10_rests 0 = .ok (.aload_n 0, 1) := by decide +kernel
theorem dX10_rests_1 : decode cX10_rests 1 = .ok (.getfield 30, 3) := by decide +kernel
theorem dX10_rests_4 : decode cX10_rests 4 = .ok (.iload_n 1, 1) := by decide +kernel
theorem dX10_rests_5 : decode cX10_rests 5 = .ok (.invokevirtual 149, 3) := by decide +kernel
theorem dX10_rests_8 : decode cX10_rests 8 = .ok (.ifCond .eq 14, 3) := by decide +kernel
theorem dX10_rests_11 : decode cX10_rests 11 = .ok (.aload_n 0, 1) := by decide +kernel
theorem dX10_rests_12 : decode cX10_rests 12 = .ok (.getfield 30, 3) := by decide +kernel
theorem dX10_rests_15 : decode cX10_rests 15 = .ok (.iload_n 2, 1) := by decide +kernel
theorem dX10_rests_16 : decode cX10_rests 16 = .ok (.invokevirtual 149, 3) := by decide +kernel
theorem dX10_rests_19 : decode cX10_rests 19 = .ok (.ifCond .ne 5, 3) := by decide +kernel
theorem dX10_rests_22 : decode cX10_rests 22 = .ok (.iconst (-1), 1) := by decide +kernel
theorem dX10_rests_23 : decode cX10_rests 23 = .ok (.ireturn, 1) := by decide +kernel
theorem dX10_rests_24 : decode cX10_rests 24 = .ok (.iload_n 1, 1) := by decide +kernel
theorem dX10_rests_25 : decode cX10_rests 25 = .ok (.iload_n 2, 1) := by decide +kernel
theorem dX10_rests_26 : decode cX10_rests 26 = .ok (.if_icmp .eq 12, 3) := by decide +kernel
theorem dX10_rests_29 : decode cX10_rests 29 = .ok (.iload_n 3, 1) := by decide +kernel
theorem dX10_rests_30 : decode cX10_rests 30 = .ok (.ifCond .lt 8, 3) := by decide +kernel
theorem dX10_rests_33 : decode cX10_rests 33 = .ok (.iload_n 3, 1) := by decide +kernel
theorem dX10_rests_34 : decode cX10_rests 34 = .ok (.iconst 1, 1) := by decide +kernel
theorem dX10_rests_35 : decode cX10_rests 35 = .ok (.if_icmp .le 6, 3) := by decide +kernel
theorem dX10_rests_38 : decode cX10_rests 38 = .ok (.bipush (-2), 2) := by decide +kernel
theorem dX10_rests_40 : decode cX10_rests 40 = .ok (.ireturn, 1) := by decide +kernel
theorem dX10_rests_41 : decode cX10_rests 41 = .ok (.aload_n 0, 1) := by decide +kernel
theorem dX10_rests_42 : decode cX10_rests 42 = .ok (.getfield 92, 3) := by decide +kernel
theorem dX10_rests_45 : decode cX10_rests 45 = .ok (.iload_n 1, 1) := by decide +kernel
theorem dX10_rests_46 : decode cX10_rests 46 = .ok (.iload_n 2, 1) := by decide +kernel
theorem dX10_rests_47 : decode cX10_rests 47 = .ok (.invokevirtual 243, 3) := by decide +kernel
theorem dX10_rests_50 : decode cX10_rests 50 = .ok (.aload_n 0, 1) := by decide +kernel
theorem dX10_rests_51 : decode cX10_rests 51 = .ok (.getfield 92, 3) := by decide +kernel
theorem dX10_rests_54 : decode cX10_rests 54 = .ok (.getfield 247, 3) := by decide +kernel
theorem dX10_rests_57 : decode cX10_rests 57 = .ok (.ifCond .ne 6, 3) := by decide +kernel
theorem dX10_rests_60 : decode cX10_rests 60 = .ok (.bipush (-9), 2) := by decide +kernel
theorem dX10_rests_62 : decode cX10_rests 62 = .ok (.ireturn, 1) := by decide +kernel
theorem dX10_rests_63 : decode cX10_rests 63 = .ok (.iload_n 3, 1) := by decide +kernel
theorem dX10_rests_64 : decode cX10_rests 64 = .ok (.ifCond .ne 13, 3) := by decide +kernel
theorem dX10_rests_67 : decode cX10_rests 67 = .ok (.aload_n 0, 1) := by decide +kernel
theorem dX10_rests_68 : decode cX10_rests 68 = .ok (.getfield 92, 3) := by decide +kernel
theorem dX10_rests_71 : decode cX10_rests 71 = .ok (.getfield 247, 3) := by decide +kernel
theorem dX10_rests_74 : decode cX10_rests 74 = .ok (.goto 10, 3) := by decide +kernel
theorem dX10_rests_77 : decode cX10_rests 77 = .ok (.aload_n 0, 1) := by decide +kernel
theorem dX10_rests_78 : decode cX10_rests 78 = .ok (.getfield 92, 3) := by decide +kernel
theorem dX10_rests_81 : decode cX10_rests 81 = .ok (.getfield 248, 3) := by decide +kernel
theorem dX10_rests_84 : decode cX10_rests 84 = .ok (.ireturn, 1) := by decide +kernel
theorem dX10_leak_0 : decode cX10_leak 0 = .ok (.iload_n 1, 1) := by decide +kernel
theorem dX10_leak_1 : decode cX10_leak 1 = .ok (.ifCond .lt 19, 3) := by decide +kernel
theorem dX10_leak_4 : decode cX10_leak 4 = .ok (.iload_n 1, 1) := by decide +kernel
theorem dX10_leak_5 : decode cX10_leak 5 = .ok (.bipush 60, 2) := by decide +kernel
theorem dX10_leak_7 : decode cX10_leak 7 = .ok (.if_icmp .gt 13, 3) := by decide +kernel
theorem dX10_leak_10 : decode cX10_leak 10 = .ok (.iload_n 2, 1) := by decide +kernel
theorem dX10_leak_11 : decode cX10_leak 11 = .ok (.ifCond .lt 9, 3) := by decide +kernel
theorem dX10_leak_14 : decode cX10_leak 14 = .ok (.iload_n 2, 1) := by decide +kernel
theorem dX10_leak_15 : decode cX10_leak 15 = .ok (.bipush 10, 2) := by decide +kernel
theorem dX10_leak_17 : decode cX10_leak 17 = .ok (.if_icmp .le 6, 3) := by decide +kernel
theorem dX10_leak_20 : decode cX10_leak 20 = .ok (.bipush (-2), 2) := by decide +kernel
theorem dX10_leak_22 : decode cX10_leak 22 = .ok (.ireturn, 1) := by decide +kernel
theorem dX10_leak_23 : decode cX10_leak 23 = .ok (.aload_n 0, 1) := by decide +kernel
theorem dX10_leak_24 : decode cX10_leak 24 = .ok (.getfield 83, 3) := by decide +kernel
theorem dX10_leak_27 : decode cX10_leak 27 = .ok (.iload_n 1, 1) := by decide +kernel
theorem dX10_leak_28 : decode cX10_leak 28 = .ok (.iload_n 2, 1) := by decide +kernel
theorem dX10_leak_29 : decode cX10_leak 29 = .ok (.iload_n 3, 1) := by decide +kernel
theorem dX10_leak_30 : decode cX10_leak 30 = .ok (.invokevirtual 251, 3) := by decide +kernel
theorem dX10_leak_33 : decode cX10_leak 33 = .ok (.ireturn, 1) := by decide +kernel
theorem dX10_seed_0 : decode cX10_seed 0 = .ok (.aload_n 0, 1) := by decide +kernel
theorem dX10_seed_1 : decode cX10_seed 1 = .ok (.getfield 255, 3) := by decide +kernel
theorem dX10_seed_4 : decode cX10_seed 4 = .ok (.lstore_n 3, 1) := by decide +kernel
theorem dX10_seed_5 : decode cX10_seed 5 = .ok (.aload_n 0, 1) := by decide +kernel
theorem dX10_seed_6 : decode cX10_seed 6 = .ok (.lload_n 1, 1) := by decide +kernel
theorem dX10_seed_7 : decode cX10_seed 7 = .ok (.putfield 255, 3) := by decide +kernel
theorem dX10_seed_10 : decode cX10_seed 10 = .ok (.lload_n 3, 1) := by decide +kernel
theorem dX10_seed_11 : decode cX10_seed 11 = .ok (.lreturn, 1) := by decide +kernel
theorem dX10_nights_0 : decode cX10_nights 0 = .ok (.iload_n 1, 1) := by decide +kernel
theorem dX10_nights_1 : decode cX10_nights 1 = .ok (.iconst 1, 1) := by decide +kernel
theorem dX10_nights_2 : decode cX10_nights 2 = .ok (.if_icmp .lt 9, 3) := by decide +kernel
theorem dX10_nights_5 : decode cX10_nights 5 = .ok (.iload_n 1, 1) := by decide +kernel
theorem dX10_nights_6 : decode cX10_nights 6 = .ok (.bipush 30, 2) := by decide +kernel
theorem dX10_nights_8 : decode cX10_nights 8 = .ok (.if_icmp .le 6, 3) := by decide +kernel
theorem dX10_nights_11 : decode cX10_nights 11 = .ok (.bipush (-2), 2) := by decide +kernel
theorem dX10_nights_13 : decode cX10_nights 13 = .ok (.ireturn, 1) := by decide +kernel
theorem dX10_nights_14 : decode cX10_nights 14 = .ok (.aload_n 0, 1) := by decide +kernel
theorem dX10_nights_15 : decode cX10_nights 15 = .ok (.getfield 45, 3) := by decide +kernel
theorem dX10_nights_18 : decode cX10_nights 18 = .ok (.aload_n 0, 1) := by decide +kernel
theorem dX10_nights_19 : decode cX10_nights 19 = .ok (.getfield 38, 3) := by decide +kernel
theorem dX10_nights_22 : decode cX10_nights 22 = .ok (.invokevirtual 164, 3) := by decide +kernel
theorem dX10_nights_25 : decode cX10_nights 25 = .ok (.iconst 0, 1) := by decide +kernel
theorem dX10_nights_26 : decode cX10_nights 26 = .ok (.istore_n 2, 1) := by decide +kernel
theorem dX10_nights_27 : decode cX10_nights 27 = .ok (.iconst 0, 1) := by decide +kernel
theorem dX10_nights_28 : decode cX10_nights 28 = .ok (.istore_n 3, 1) := by decide +kernel
theorem dX10_nights_29 : decode cX10_nights 29 = .ok (.iload_n 3, 1) := by decide +kernel
theorem dX10_nights_30 : decode cX10_nights 30 = .ok (.iload_n 1, 1) := by decide +kernel
theorem dX10_nights_31 : decode cX10_nights 31 = .ok (.if_icmp .ge 54, 3) := by decide +kernel
theorem dX10_nights_34 : decode cX10_nights 34 = .ok (.aload_n 0, 1) := by decide +kernel
theorem dX10_nights_35 : decode cX10_nights 35 = .ok (.aload_n 0, 1) := by decide +kernel
theorem dX10_nights_36 : decode cX10_nights 36 = .ok (.getfield 255, 3) := by decide +kernel
theorem dX10_nights_39 : decode cX10_nights 39 = .ok (.ldc2_w 259, 3) := by decide +kernel
theorem dX10_nights_42 : decode cX10_nights 42 = .ok (.lmul, 1) := by decide +kernel
theorem dX10_nights_43 : decode cX10_nights 43 = .ok (.ldc2_w 261, 3) := by decide +kernel
theorem dX10_nights_46 : decode cX10_nights 46 = .ok (.ladd, 1) := by decide +kernel
theorem dX10_nights_47 : decode cX10_nights 47 = .ok (.putfield 255, 3) := by decide +kernel
theorem dX10_nights_50 : decode cX10_nights 50 = .ok (.aload_n 0, 1) := by decide +kernel
theorem dX10_nights_51 : decode cX10_nights 51 = .ok (.getfield 45, 3) := by decide +kernel
theorem dX10_nights_54 : decode cX10_nights 54 = .ok (.aload_n 0, 1) := by decide +kernel
theorem dX10_nights_55 : decode cX10_nights 55 = .ok (.getfield 255, 3) := by decide +kernel
theorem dX10_nights_58 : decode cX10_nights 58 = .ok (.bipush 33, 2) := by decide +kernel
theorem dX10_nights_60 : decode cX10_nights 60 = .ok (.lushr, 1) := by decide +kernel
theorem dX10_nights_61 : decode cX10_nights 61 = .ok (.ldc2_w 263, 3) := by decide +kernel
theorem dX10_nights_64 : decode cX10_nights 64 = .ok (.lrem, 1) := by decide +kernel
theorem dX10_nights_65 : decode cX10_nights 65 = .ok (.l2i, 1) := by decide +kernel
theorem dX10_nights_66 : decode cX10_nights 66 = .ok (.invokevirtual 265, 3) := by decide +kernel
theorem dX10_nights_69 : decode cX10_nights 69 = .ok (.iload_n 2, 1) := by decide +kernel
theorem dX10_nights_70 : decode cX10_nights 70 = .ok (.aload_n 0, 1) := by decide +kernel
theorem dX10_nights_71 : decode cX10_nights 71 = .ok (.getfield 45, 3) := by decide +kernel
theorem dX10_nights_74 : decode cX10_nights 74 = .ok (.invokevirtual 196, 3) := by decide +kernel
theorem dX10_nights_77 : decode cX10_nights 77 = .ok (.iadd, 1) := by decide +kernel
theorem dX10_nights_78 : decode cX10_nights 78 = .ok (.istore_n 2, 1) := by decide +kernel
theorem dX10_nights_79 : decode cX10_nights 79 = .ok (.iinc 3 1, 3) := by decide +kernel
theorem dX10_nights_82 : decode cX10_nights 82 = .ok (.goto (-53), 3) := by decide +kernel
theorem dX10_nights_85 : decode cX10_nights 85 = .ok (.iload_n 2, 1) := by decide +kernel
theorem dX10_nights_86 : decode cX10_nights 86 = .ok (.ireturn, 1) := by decide +kernel
theorem dX10_keep_0 : decode cX10_keep 0 = .ok (.iload_n 1, 1) := by decide +kernel
theorem dX10_keep_1 : decode cX10_keep 1 = .ok (.ifCond .lt 8, 3) := by decide +kernel
theorem dX10_keep_4 : decode cX10_keep 4 = .ok (.iload_n 1, 1) := by decide +kernel
theorem dX10_keep_5 : decode cX10_keep 5 = .ok (.iconst 2, 1) := by decide +kernel
theorem dX10_keep_6 : decode cX10_keep 6 = .ok (.if_icmp .lt 5, 3) := by decide +kernel
theorem dX10_keep_9 : decode cX10_keep 9 = .ok (.iconst (-1), 1) := by decide +kernel
theorem dX10_keep_10 : decode cX10_keep 10 = .ok (.ireturn, 1) := by decide +kernel
theorem dX10_keep_11 : decode cX10_keep 11 = .ok (.aload_n 0, 1) := by decide +kernel
theorem dX10_keep_12 : decode cX10_keep 12 = .ok (.getfield 60, 3) := by decide +kernel
theorem dX10_keep_15 : decode cX10_keep 15 = .ok (.iload_n 1, 1) := by decide +kernel
theorem dX10_keep_16 : decode cX10_keep 16 = .ok (.aload_n 0, 1) := by decide +kernel
theorem dX10_keep_17 : decode cX10_keep 17 = .ok (.getfield 38, 3) := by decide +kernel
theorem dX10_keep_20 : decode cX10_keep 20 = .ok (.invokevirtual 268, 3) := by decide +kernel
theorem dX10_keep_23 : decode cX10_keep 23 = .ok (.aload_n 0, 1) := by decide +kernel
theorem dX10_keep_24 : decode cX10_keep 24 = .ok (.dup, 1) := by decide +kernel
theorem dX10_keep_25 : decode cX10_keep 25 = .ok (.getfield 117, 3) := by decide +kernel
theorem dX10_keep_28 : decode cX10_keep 28 = .ok (.iconst 1, 1) := by decide +kernel
theorem dX10_keep_29 : decode cX10_keep 29 = .ok (.iload_n 1, 1) := by decide +kernel
theorem dX10_keep_30 : decode cX10_keep 30 = .ok (.ishl, 1) := by decide +kernel
theorem dX10_keep_31 : decode cX10_keep 31 = .ok (.ior, 1) := by decide +kernel
theorem dX10_keep_32 : decode cX10_keep 32 = .ok (.putfield 117, 3) := by decide +kernel
theorem dX10_keep_35 : decode cX10_keep 35 = .ok (.aload_n 0, 1) := by decide +kernel
theorem dX10_keep_36 : decode cX10_keep 36 = .ok (.getfield 38, 3) := by decide +kernel
theorem dX10_keep_39 : decode cX10_keep 39 = .ok (.getfield 272, 3) := by decide +kernel
theorem dX10_keep_42 : decode cX10_keep 42 = .ok (.ireturn, 1) := by decide +kernel
theorem dX10_again_0 : decode cX10_again 0 = .ok (.iload_n 1, 1) := by decide +kernel
theorem dX10_again_1 : decode cX10_again 1 = .ok (.ifCond .lt 8, 3) := by decide +kernel
theorem dX10_again_4 : decode cX10_again 4 = .ok (.iload_n 1, 1) := by decide +kernel
theorem dX10_again_5 : decode cX10_again 5 = .ok (.iconst 2, 1) := by decide +kernel
theorem dX10_again_6 : decode cX10_again 6 = .ok (.if_icmp .lt 5, 3) := by decide +kernel
theorem dX10_again_9 : decode cX10_again 9 = .ok (.iconst (-1), 1) := by decide +kernel
theorem dX10_again_10 : decode cX10_again 10 = .ok (.ireturn, 1) := by decide +kernel
theorem dX10_again_11 : decode cX10_again 11 = .ok (.aload_n 0, 1) := by decide +kernel
theorem dX10_again_12 : decode cX10_again 12 = .ok (.getfield 117, 3) := by decide +kernel
theorem dX10_again_15 : decode cX10_again 15 = .ok (.iload_n 1, 1) := by decide +kernel
theorem dX10_again_16 : decode cX10_again 16 = .ok (.invokestatic 275, 3) := by decide +kernel
theorem dX10_again_19 : decode cX10_again 19 = .ok (.ifCond .ne 6, 3) := by decide +kernel
theorem dX10_again_22 : decode cX10_again 22 = .ok (.bipush (-3), 2) := by decide +kernel
theorem dX10_again_24 : decode cX10_again 24 = .ok (.ireturn, 1) := by decide +kernel
theorem dX10_again_25 : decode cX10_again 25 = .ok (.aload_n 0, 1) := by decide +kernel
theorem dX10_again_26 : decode cX10_again 26 = .ok (.getfield 60, 3) := by decide +kernel
theorem dX10_again_29 : decode cX10_again 29 = .ok (.iload_n 1, 1) := by decide +kernel
theorem dX10_again_30 : decode cX10_again 30 = .ok (.aload_n 0, 1) := by decide +kernel
theorem dX10_again_31 : decode cX10_again 31 = .ok (.getfield 38, 3) := by decide +kernel
theorem dX10_again_34 : decode cX10_again 34 = .ok (.invokevirtual 279, 3) := by decide +kernel
theorem dX10_again_37 : decode cX10_again 37 = .ok (.aload_n 0, 1) := by decide +kernel
theorem dX10_again_38 : decode cX10_again 38 = .ok (.getfield 51, 3) := by decide +kernel
theorem dX10_again_41 : decode cX10_again 41 = .ok (.invokevirtual 114, 3) := by decide +kernel
theorem dX10_again_44 : decode cX10_again 44 = .ok (.aload_n 0, 1) := by decide +kernel
theorem dX10_again_45 : decode cX10_again 45 = .ok (.getfield 38, 3) := by decide +kernel
theorem dX10_again_48 : decode cX10_again 48 = .ok (.getfield 272, 3) := by decide +kernel
theorem dX10_again_51 : decode cX10_again 51 = .ok (.ireturn, 1) := by decide +kernel
theorem dX10_count_0 : decode cX10_count 0 = .ok (.iload_n 1, 1) := by decide +kernel
theorem dX10_count_1 : decode cX10_count 1 = .ok (.tableswitch 111 0 7 #[47, 55, 63, 71, 79, 87, 95, 103], 47) := by decide +kernel
theorem dX10_count_48 : decode cX10_count 48 = .ok (.aload_n 0, 1) := by decide +kernel
theorem dX10_count_49 : decode cX10_count 49 = .ok (.getfield 12, 3) := by decide +kernel
theorem dX10_count_52 : decode cX10_count 52 = .ok (.getfield 100, 3) := by decide +kernel
theorem dX10_count_55 : decode cX10_count 55 = .ok (.ireturn, 1) := by decide +kernel
theorem dX10_count_56 : decode cX10_count 56 = .ok (.aload_n 0, 1) := by decide +kernel
theorem dX10_count_57 : decode cX10_count 57 = .ok (.getfield 30, 3) := by decide +kernel
theorem dX10_count_60 : decode cX10_count 60 = .ok (.getfield 120, 3) := by decide +kernel
theorem dX10_count_63 : decode cX10_count 63 = .ok (.ireturn, 1) := by decide +kernel
theorem dX10_count_64 : decode cX10_count 64 = .ok (.aload_n 0, 1) := by decide +kernel
theorem dX10_count_65 : decode cX10_count 65 = .ok (.getfield 30, 3) := by decide +kernel
theorem dX10_count_68 : decode cX10_count 68 = .ok (.getfield 123, 3) := by decide +kernel
theorem dX10_count_71 : decode cX10_count 71 = .ok (.ireturn, 1) := by decide +kernel
theorem dX10_count_72 : decode cX10_count 72 = .ok (.aload_n 0, 1) := by decide +kernel
theorem dX10_count_73 : decode cX10_count 73 = .ok (.getfield 38, 3) := by decide +kernel
theorem dX10_count_76 : decode cX10_count 76 = .ok (.invokevirtual 196, 3) := by decide +kernel
theorem dX10_count_79 : decode cX10_count 79 = .ok (.ireturn, 1) := by decide +kernel
theorem dX10_count_80 : decode cX10_count 80 = .ok (.aload_n 0, 1) := by decide +kernel
theorem dX10_count_81 : decode cX10_count 81 = .ok (.getfield 38, 3) := by decide +kernel
theorem dX10_count_84 : decode cX10_count 84 = .ok (.invokevirtual 199, 3) := by decide +kernel
theorem dX10_count_87 : decode cX10_count 87 = .ok (.ireturn, 1) := by decide +kernel
theorem dX10_count_88 : decode cX10_count 88 = .ok (.aload_n 0, 1) := by decide +kernel
theorem dX10_count_89 : decode cX10_count 89 = .ok (.getfield 38, 3) := by decide +kernel
theorem dX10_count_92 : decode cX10_count 92 = .ok (.getfield 272, 3) := by decide +kernel
theorem dX10_count_95 : decode cX10_count 95 = .ok (.ireturn, 1) := by decide +kernel
theorem dX10_count_96 : decode cX10_count 96 = .ok (.aload_n 0, 1) := by decide +kernel
theorem dX10_count_97 : decode cX10_count 97 = .ok (.getfield 51, 3) := by decide +kernel
theorem dX10_count_100 : decode cX10_count 100 = .ok (.getfield 187, 3) := by decide +kernel
theorem dX10_count_103 : decode cX10_count 103 = .ok (.ireturn, 1) := by decide +kernel
theorem dX10_count_104 : decode cX10_count 104 = .ok (.aload_n 0, 1) := by decide +kernel
theorem dX10_count_105 : decode cX10_count 105 = .ok (.getfield 67, 3) := by decide +kernel
theorem dX10_count_108 : decode cX10_count 108 = .ok (.getfield 235, 3) := by decide +kernel
theorem dX10_count_111 : decode cX10_count 111 = .ok (.ireturn, 1) := by decide +kernel
theorem dX10_count_112 : decode cX10_count 112 = .ok (.bipush (-2), 2) := by decide +kernel
theorem dX10_count_114 : decode cX10_count 114 = .ok (.ireturn, 1) := by decide +kernel
theorem dX10_hasBit_0 : decode cX10_hasBit 0 = .ok (.iload_n 0, 1) := by decide +kernel
theorem dX10_hasBit_1 : decode cX10_hasBit 1 = .ok (.iload_n 1, 1) := by decide +kernel
theorem dX10_hasBit_2 : decode cX10_hasBit 2 = .ok (.ishr, 1) := by decide +kernel
theorem dX10_hasBit_3 : decode cX10_hasBit 3 = .ok (.iconst 1, 1) := by decide +kernel
theorem dX10_hasBit_4 : decode cX10_hasBit 4 = .ok (.iand, 1) := by decide +kernel
theorem dX10_hasBit_5 : decode cX10_hasBit 5 = .ok (.ifCond .eq 7, 3) := by decide +kernel
theorem dX10_hasBit_8 : decode cX10_hasBit 8 = .ok (.iconst 1, 1) := by decide +kernel
theorem dX10_hasBit_9 : decode cX10_hasBit 9 = .ok (.goto 4, 3) := by decide +kernel
theorem dX10_hasBit_12 : decode cX10_hasBit 12 = .ok (.iconst 0, 1) := by decide +kernel
theorem dX10_hasBit_13 : decode cX10_hasBit 13 = .ok (.ireturn, 1) := by decide +kernel
theorem dX10_gulp_0 : decode cX10_gulp 0 = .ok (.iload_n 2, 1) := by decide +kernel
theorem dX10_gulp_1 : decode cX10_gulp 1 = .ok (.istore_n 3, 1) := by decide +kernel
theorem dX10_gulp_2 : decode cX10_gulp 2 = .ok (.iload_n 0, 1) := by decide +kernel
theorem dX10_gulp_3 : decode cX10_gulp 3 = .ok (.iconst 1, 1) := by decide +kernel
theorem dX10_gulp_4 : decode cX10_gulp 4 = .ok (.if_icmp .ne 18, 3) := by decide +kernel
theorem dX10_gulp_7 : decode cX10_gulp 7 = .ok (.iload_n 2, 1) := by decide +kernel
theorem dX10_gulp_8 : decode cX10_gulp 8 = .ok (.ifCond .le 9, 3) := by decide +kernel
theorem dX10_gulp_11 : decode cX10_gulp 11 = .ok (.iload_n 2, 1) := by decide +kernel
theorem dX10_gulp_12 : decode cX10_gulp 12 = .ok (.iconst 1, 1) := by decide +kernel
theorem dX10_gulp_13 : decode cX10_gulp 13 = .ok (.isub, 1) := by decide +kernel
theorem dX10_gulp_14 : decode cX10_gulp 14 = .ok (.goto 4, 3) := by decide +kernel
theorem dX10_gulp_17 : decode cX10_gulp 17 = .ok (.iconst 0, 1) := by decide +kernel
theorem dX10_gulp_18 : decode cX10_gulp 18 = .ok (.istore_n 3, 1) := by decide +kernel
theorem dX10_gulp_19 : decode cX10_gulp 19 = .ok (.goto 22, 3) := by decide +kernel
theorem dX10_gulp_22 : decode cX10_gulp 22 = .ok (.iload_n 0, 1) := by decide +kernel
theorem dX10_gulp_23 : decode cX10_gulp 23 = .ok (.iconst 2, 1) := by decide +kernel
theorem dX10_gulp_24 : decode cX10_gulp 24 = .ok (.if_icmp .ne 10, 3) := by decide +kernel
theorem dX10_gulp_27 : decode cX10_gulp 27 = .ok (.iload_n 2, 1) := by decide +kernel
theorem dX10_gulp_28 : decode cX10_gulp 28 = .ok (.iconst 2, 1) := by decide +kernel
theorem dX10_gulp_29 : decode cX10_gulp 29 = .ok (.idiv, 1) := by decide +kernel
theorem dX10_gulp_30 : decode cX10_gulp 30 = .ok (.istore_n 3, 1) := by decide +kernel
theorem dX10_gulp_31 : decode cX10_gulp 31 = .ok (.goto 10, 3) := by decide +kernel
theorem dX10_gulp_34 : decode cX10_gulp 34 = .ok (.iload_n 0, 1) := by decide +kernel
theorem dX10_gulp_35 : decode cX10_gulp 35 = .ok (.iconst 3, 1) := by decide +kernel
theorem dX10_gulp_36 : decode cX10_gulp 36 = .ok (.if_icmp .ne 5, 3) := by decide +kernel
theorem dX10_gulp_39 : decode cX10_gulp 39 = .ok (.iconst 0, 1) := by decide +kernel
theorem dX10_gulp_40 : decode cX10_gulp 40 = .ok (.istore_n 3, 1) := by decide +kernel
theorem dX10_gulp_41 : decode cX10_gulp 41 = .ok (.iload_n 1, 1) := by decide +kernel
theorem dX10_gulp_42 : decode cX10_gulp 42 = .ok (.iload_n 3, 1) := by decide +kernel
theorem dX10_gulp_43 : decode cX10_gulp 43 = .ok (.if_icmp .ge 7, 3) := by decide +kernel
theorem dX10_gulp_46 : decode cX10_gulp 46 = .ok (.iload_n 1, 1) := by decide +kernel
theorem dX10_gulp_47 : decode cX10_gulp 47 = .ok (.goto 4, 3) := by decide +kernel
theorem dX10_gulp_50 : decode cX10_gulp 50 = .ok (.iload_n 3, 1) := by decide +kernel
theorem dX10_gulp_51 : decode cX10_gulp 51 = .ok (.ireturn, 1) := by decide +kernel
theorem dX10_fractionSide_0 : decode cX10_fractionSide 0 = .ok (.iload_n 0, 1) := by decide +kernel
theorem dX10_fractionSide_1 : decode cX10_fractionSide 1 = .ok (.invokestatic 282, 3) := by decide +kernel
theorem dX10_fractionSide_4 : decode cX10_fractionSide 4 = .ok (.iload_n 1, 1) := by decide +kernel
theorem dX10_fractionSide_5 : decode cX10_fractionSide 5 = .ok (.invokestatic 285, 3) := by decide +kernel
theorem dX10_fractionSide_8 : decode cX10_fractionSide 8 = .ok (.istore_n 3, 1) := by decide +kernel
theorem dX10_fractionSide_9 : decode cX10_fractionSide 9 = .ok (.iload_n 2, 1) := by decide +kernel
theorem dX10_fractionSide_10 : decode cX10_fractionSide 10 = .ok (.ifCond .eq 7, 3) := by decide +kernel
theorem dX10_fractionSide_13 : decode cX10_fractionSide 13 = .ok (.iload_n 0, 1) := by decide +kernel
theorem dX10_fractionSide_14 : decode cX10_fractionSide 14 = .ok (.goto 4, 3) := by decide +kernel
theorem dX10_fractionSide_17 : decode cX10_fractionSide 17 = .ok (.iload_n 1, 1) := by decide +kernel
theorem dX10_fractionSide_18 : decode cX10_fractionSide 18 = .ok (.iload_n 3, 1) := by decide +kernel
theorem dX10_fractionSide_19 : decode cX10_fractionSide 19 = .ok (.idiv, 1) := by decide +kernel
theorem dX10_fractionSide_20 : decode cX10_fractionSide 20 = .ok (.ireturn, 1) := by decide +kernel
theorem dX10_commonDivisor_0 : decode cX10_commonDivisor 0 = .ok (.iload_n 0, 1) := by decide +kernel
theorem dX10_commonDivisor_1 : decode cX10_commonDivisor 1 = .ok (.istore_n 2, 1) := by decide +kernel
theorem dX10_commonDivisor_2 : decode cX10_commonDivisor 2 = .ok (.iload_n 1, 1) := by decide +kernel
theorem dX10_commonDivisor_3 : decode cX10_commonDivisor 3 = .ok (.istore_n 3, 1) := by decide +kernel
theorem dX10_commonDivisor_4 : decode cX10_commonDivisor 4 = .ok (.iconst 0, 1) := by decide +kernel
theorem dX10_commonDivisor_5 : decode cX10_commonDivisor 5 = .ok (.istore 4, 2) := by decide +kernel
theorem dX10_commonDivisor_7 : decode cX10_commonDivisor 7 = .ok (.iload 4, 2) := by decide +kernel
theorem dX10_commonDivisor_9 : decode cX10_commonDivisor 9 = .ok (.bipush 64, 2) := by decide +kernel
theorem dX10_commonDivisor_11 : decode cX10_commonDivisor 11 = .ok (.if_icmp .ge 23, 3) := by decide +kernel
theorem dX10_commonDivisor_14 : decode cX10_commonDivisor 14 = .ok (.iload_n 3, 1) := by decide +kernel
theorem dX10_commonDivisor_15 : decode cX10_commonDivisor 15 = .ok (.ifCond .eq 19, 3) := by decide +kernel
theorem dX10_commonDivisor_18 : decode cX10_commonDivisor 18 = .ok (.iload_n 2, 1) := by decide +kernel
theorem dX10_commonDivisor_19 : decode cX10_commonDivisor 19 = .ok (.iload_n 3, 1) := by decide +kernel
theorem dX10_commonDivisor_20 : decode cX10_commonDivisor 20 = .ok (.irem, 1) := by decide +kernel
theorem dX10_commonDivisor_21 : decode cX10_commonDivisor 21 = .ok (.istore 5, 2) := by decide +kernel
theorem dX10_commonDivisor_23 : decode cX10_commonDivisor 23 = .ok (.iload_n 3, 1) := by decide +kernel
theorem dX10_commonDivisor_24 : decode cX10_commonDivisor 24 = .ok (.istore_n 2, 1) := by decide +kernel
theorem dX10_commonDivisor_25 : decode cX10_commonDivisor 25 = .ok (.iload 5, 2) := by decide +kernel
theorem dX10_commonDivisor_27 : decode cX10_commonDivisor 27 = .ok (.istore_n 3, 1) := by decide +kernel
theorem dX10_commonDivisor_28 : decode cX10_commonDivisor 28 = .ok (.iinc 4 1, 3) := by decide +kernel
theorem dX10_commonDivisor_31 : decode cX10_commonDivisor 31 = .ok (.goto (-24), 3) := by decide +kernel
theorem dX10_commonDivisor_34 : decode cX10_commonDivisor 34 = .ok (.iconst 1, 1) := by decide +kernel
theorem dX10_commonDivisor_35 : decode cX10_commonDivisor 35 = .ok (.iload_n 2, 1) := by decide +kernel
theorem dX10_commonDivisor_36 : decode cX10_commonDivisor 36 = .ok (.invokestatic 288, 3) := by decide +kernel
theorem dX10_commonDivisor_39 : decode cX10_commonDivisor 39 = .ok (.ireturn, 1) := by decide +kernel
end
section
theorem dX11_init_0 : decode cX11_init 0 = .ok (.aload_n 0, 1) := by decide +kernel
theorem dX11_init_1 : decode cX11_init 1 = .ok (.invokespecial 1, 3) := by decide +kernel
theorem dX11_init_4 : decode cX11_init 4 = .ok (.aload_n 0, 1) := by decide +kernel
theorem dX11_init_5 : decode cX11_init 5 = .ok (.iconst 5, 1) := by decide +kernel
theorem dX11_init_6 : decode cX11_init 6 = .ok (.newarray .int, 2) := by decide +kernel
theorem dX11_init_8 : decode cX11_init 8 = .ok (.putfield 7, 3) := by decide +kernel
theorem dX11_init_11 : decode cX11_init 11 = .ok (.aload_n 0, 1) := by decide +kernel
theorem dX11_init_12 : decode cX11_init 12 = .ok (.iconst 5, 1) := by decide +kernel
theorem dX11_init_13 : decode cX11_init 13 = .ok (.newarray .int, 2) := by decide +kernel
theorem dX11_init_15 : decode cX11_init 15 = .ok (.putfield 13, 3) := by decide +kernel
theorem dX11_init_18 : decode cX11_init 18 = .ok (.aload_n 0, 1) := by decide +kernel
theorem dX11_init_19 : decode cX11_init 19 = .ok (.iconst 4, 1) := by decide +kernel
theorem dX11_init_20 : decode cX11_init 20 = .ok (.newarray .int, 2) := by decide +kernel
theorem dX11_init_22 : decode cX11_init 22 = .ok (.putfield 16, 3) := by decide +kernel
theorem dX11_init_25 : decode cX11_init 25 = .ok (.aload_n 0, 1) := by decide +kernel
theorem dX11_init_26 : decode cX11_init 26 = .ok (.iconst 4, 1) := by decide +kernel
theorem dX11_init_27 : decode cX11_init 27 = .ok (.newarray .int, 2) := by decide +kernel
theorem dX11_init_29 : decode cX11_init 29 = .ok (.putfield 19, 3) := by decide +kernel
theorem dX11_init_32 : decode cX11_init 32 = .ok (.aload_n 0, 1) := by decide +kernel
theorem dX11_init_33 : decode cX11_init 33 = .ok (.bipush 30, 2) := by decide +kernel
theorem dX11_init_35 : decode cX11_init 35 = .ok (.newarray .int, 2) := by decide +kernel
theorem dX11_init_37 : decode cX11_init 37 = .ok (.putfield 22, 3) := by decide +kernel
theorem dX11_init_40 : decode cX11_init 40 = .ok (.aload_n 0, 1) := by decide +kernel
theorem dX11_init_41 : decode cX11_init 41 = .ok (.bipush 15, 2) := by decide +kernel
theorem dX11_init_43 : decode cX11_init 43 = .ok (.newarray .int, 2) := by decide +kernel
theorem dX11_init_45 : decode cX11_init 45 = .ok (.putfield 25, 3) := by decide +kernel
theorem dX11_init_48 : decode cX11_init 48 = .ok (.aload_n 0, 1) := by decide +kernel
theorem dX11_init_49 : decode cX11_init 49 = .ok (.bipush 8, 2) := by decide +kernel
theorem dX11_init_51 : decode cX11_init 51 = .ok (.newarray .int, 2) := by decide +kernel
theorem dX11_init_53 : decode cX11_init 53 = .ok (.putfield 28, 3) := by decide +kernel
theorem dX11_init_56 : decode cX11_init 56 = .ok (.aload_n 0, 1) := by decide +kernel
theorem dX11_init_57 : decode cX11_init 57 = .ok (.iconst 4, 1) := by decide +kernel
theorem dX11_init_58 : decode cX11_init 58 = .ok (.newarray .int, 2) := by decide +kernel
theorem dX11_init_60 : decode cX11_init 60 = .ok (.putfield 31, 3) := by decide +kernel
theorem dX11_init_63 : decode cX11_init 63 = .ok (.aload_n 0, 1) := by decide +kernel
theorem dX11_init_64 : decode cX11_init 64 = .ok (.bipush 60, 2) := by decide +kernel
theorem dX11_init_66 : decode cX11_init 66 = .ok (.newarray .int, 2) := by decide +kernel
theorem dX11_init_68 : decode cX11_init 68 = .ok (.putfield 34, 3) := by decide +kernel
theorem dX11_init_71 : decode cX11_init 71 = .ok (.aload_n 0, 1) := by decide +kernel
theorem dX11_init_72 : decode cX11_init 72 = .ok (.sipush 210, 3) := by decide +kernel
theorem dX11_init_75 : decode cX11_init 75 = .ok (.newarray .int, 2) := by decide +kernel
theorem dX11_init_77 : decode cX11_init 77 = .ok (.putfield 37, 3) := by decide +kernel
theorem dX11_init_80 : decode cX11_init 80 = .ok (.aload_n 0, 1) := by decide +kernel
theorem dX11_init_81 : decode cX11_init 81 = .ok (.bipush 6, 2) := by decide +kernel
theorem dX11_init_83 : decode cX11_init 83 = .ok (.newarray .int, 2) := by decide +kernel
theorem dX11_init_85 : decode cX11_init 85 = .ok (.putfield 40, 3) := by decide +kernel
theorem dX11_init_88 : decode cX11_init 88 = .ok (.aload_n 0, 1) := by decide +kernel
theorem dX11_init_89 : decode cX11_init 89 = .ok (.bipush 6, 2) := by decide +kernel
theorem dX11_init_91 : decode cX11_init 91 = .ok (.newarray .int, 2) := by decide +kernel
theorem dX11_init_93 : decode cX11_init 93 = .ok (.putfield 43, 3) := by decide +kernel
theorem dX11_init_96 : decode cX11_init 96 = .ok (.aload_n 0, 1) := by decide +kernel
theorem dX11_init_97 : decode cX11_init 97 = .ok (.bipush 6, 2) := by decide +kernel
theorem dX11_init_99 : decode cX11_init 99 = .ok (.newarray .int, 2) := by decide +kernel
theorem dX11_init_101 : decode cX11_init 101 = .ok (.putfield 46, 3) := by decide +kernel
theorem dX11_init_104 : decode cX11_init 104 = .ok (.aload_n 0, 1) := by decide +kernel
theorem dX11_init_105 : decode cX11_init 105 = .ok (.iconst 2, 1) := by decide +kernel
theorem dX11_init_106 : decode cX11_init 106 = .ok (.newarray .boolean, 2) := by decide +kernel
theorem dX11_init_108 : decode cX11_init 108 = .ok (.putfield 49, 3) := by decide +kernel
theorem dX11_init_111 : decode cX11_init 111 = .ok (.aload_n 0, 1) := by decide +kernel
theorem dX11_init_112 : decode cX11_init 112 = .ok (.bipush 30, 2) := by decide +kernel
theorem dX11_init_114 : decode cX11_init 114 = .ok (.newarray .int, 2) := by decide +kernel
theorem dX11_init_116 : decode cX11_init 116 = .ok (.putfield 53, 3) := by decide +kernel
theorem dX11_init_119 : decode cX11_init 119 = .ok (.aload_n 0, 1) := by decide +kernel
theorem dX11_init_120 : decode cX11_init 120 = .ok (.iconst 0, 1) := by decide +kernel
theorem dX11_init_121 : decode cX11_init 121 = .ok (.putfield 56, 3) := by decide +kernel
theorem dX11_init_124 : decode cX11_init 124 = .ok (.return_, 1) := by decide +kernel
theorem dX11_in_0 : decode cX11_in 0 = .ok (.lload_n 0, 1) := by decide +kernel
theorem dX11_in_1 : decode cX11_in 1 = .ok (.lload_n 2, 1) := by decide +kernel
theorem dX11_in_2 : decode cX11_in 2 = .ok (.lcmp, 1) := by decide +kernel
theorem dX11_in_3 : decode cX11_in 3 = .ok (.ifCond .lt 14, 3) := by decide +kernel
theorem dX11_in_6 : decode cX11_in 6 = .ok (.lload_n 0, 1) := by decide +kernel
theorem dX11_in_7 : decode cX11_in 7 = .ok (.lload 4, 2) := by decide +kernel
theorem dX11_in_9 : decode cX11_in 9 = .ok (.lcmp, 1) := by decide +kernel
theorem dX11_in_10 : decode cX11_in 10 = .ok (.ifCond .gt 7, 3) := by decide +kernel
theorem dX11_in_13 : decode cX11_in 13 = .ok (.iconst 1, 1) := by decide +kernel
theorem dX11_in_14 : decode cX11_in 14 = .ok (.goto 4, 3) := by decide +kernel
theorem dX11_in_17 : decode cX11_in 17 = .ok (.iconst 0, 1) := by decide +kernel
theorem dX11_in_18 : decode cX11_in 18 = .ok (.ireturn, 1) := by decide +kernel
theorem dX11_has_0 : decode cX11_has 0 = .ok (.iload_n 0, 1) := by decide +kernel
theorem dX11_has_1 : decode cX11_has 1 = .ok (.iload_n 1, 1) := by decide +kernel
theorem dX11_has_2 : decode cX11_has 2 = .ok (.ishr, 1) := by decide +kernel
theorem dX11_has_3 : decode cX11_has 3 = .ok (.iconst 1, 1) := by decide +kernel
theorem dX11_has_4 : decode cX11_has 4 = .ok (.iand, 1) := by decide +kernel
theorem dX11_has_5 : decode cX11_has 5 = .ok (.iconst 1, 1) := by decide +kernel
theorem dX11_has_6 : decode cX11_has 6 = .ok (.if_icmp .ne 7, 3) := by decide +kernel
theorem dX11_has_9 : decode cX11_has 9 = .ok (.iconst 1, 1) := by decide +kernel
theorem dX11_has_10 : decode cX11_has 10 = .ok (.goto 4, 3) := by decide +kernel
theorem dX11_has_13 : decode cX11_has 13 = .ok (.iconst 0, 1) := by decide +kernel
theorem dX11_has_14 : decode cX11_has 14 = .ok (.ireturn, 1) := by decide +kernel
theorem dX11_ones_0 : decode cX11_ones 0 = .ok (.iconst 0, 1) := by decide +kernel
theorem dX11_ones_1 : decode cX11_ones 1 = .ok (.istore_n 1, 1) := by decide +kernel
theorem dX11_ones_2 : decode cX11_ones 2 = .ok (.iconst 0, 1) := by decide +kernel
theorem dX11_ones_3 : decode cX11_ones 3 = .ok (.istore_n 2, 1) := by decide +kernel
theorem dX11_ones_4 : decode cX11_ones 4 = .ok (.iload_n 2, 1) := by decide +kernel
theorem dX11_ones_5 : decode cX11_ones 5 = .ok (.iconst 5, 1) := by decide +kernel
theorem dX11_ones_6 : decode cX11_ones 6 = .ok (.if_icmp .ge 17, 3) := by decide +kernel
theorem dX11_ones_9 : decode cX11_ones 9 = .ok (.iload_n 1, 1) := by decide +kernel
theorem dX11_ones_10 : decode cX11_ones 10 = .ok (.iload_n 0, 1) := by decide +kernel
theorem dX11_ones_11 : decode cX11_ones 11 = .ok (.iload_n 2, 1) := by decide +kernel
theorem dX11_ones_12 : decode cX11_ones 12 = .ok (.ishr, 1) := by decide +kernel
theorem dX11_ones_13 : decode cX11_ones 13 = .ok (.iconst 1, 1) := by decide +kernel
theorem dX11_ones_14 : decode cX11_ones 14 = .ok (.iand, 1) := by decide +kernel
theorem dX11_ones_15 : decode cX11_ones 15 = .ok (.iadd, 1) := by decide +kernel
theorem dX11_ones_16 : decode cX11_ones 16 = .ok (.istore_n 1, 1) := by decide +kernel
theorem dX11_ones_17 : decode cX11_ones 17 = .ok (.iinc 2 1, 3) := by decide +kernel
theorem dX11_ones_20 : decode cX11_ones 20 = .ok (.goto (-16), 3) := by decide +kernel
theorem dX11_ones_23 : decode cX11_ones 23 = .ok (.iload_n 1, 1) := by decide +kernel
theorem dX11_ones_24 : decode cX11_ones 24 = .ok (.ireturn, 1) := by decide +kernel
theorem dX11_write_0 : decode cX11_write 0 = .ok (.iload_n 1, 1) := by decide +kernel
theorem dX11_write_1 : decode cX11_write 1 = .ok (.i2l, 1) := by decide +kernel
theorem dX11_write_2 : decode cX11_write 2 = .ok (.lconst 0, 1) := by decide +kernel
theorem dX11_write_3 : decode cX11_write 3 = .ok (.ldc2_w 60, 3) := by decide +kernel
theorem dX11_write_6 : decode cX11_write 6 = .ok (.invokestatic 62, 3) := by decide +kernel
theorem dX11_write_9 : decode cX11_write 9 = .ok (.ifCond .ne 6, 3) := by decide +kernel
theorem dX11_write_12 : decode cX11_write 12 = .ok (.bipush (-2), 2) := by decide +kernel
theorem dX11_write_14 : decode cX11_write 14 = .ok (.ireturn, 1) := by decide +kernel
theorem dX11_write_15 : decode cX11_write 15 = .ok (.aload_n 0, 1) := by decide +kernel
theorem dX11_write_16 : decode cX11_write 16 = .ok (.getfield 66, 3) := by decide +kernel
theorem dX11_write_19 : decode cX11_write 19 = .ok (.bipush 60, 2) := by decide +kernel
theorem dX11_write_21 : decode cX11_write 21 = .ok (.if_icmp .ne 6, 3) := by decide +kernel
theorem dX11_write_24 : decode cX11_write 24 = .ok (.bipush (-4), 2) := by decide +kernel
theorem dX11_write_26 : decode cX11_write 26 = .ok (.ireturn, 1) := by decide +kernel
theorem dX11_write_27 : decode cX11_write 27 = .ok (.aload_n 0, 1) := by decide +kernel
theorem dX11_write_28 : decode cX11_write 28 = .ok (.getfield 34, 3) := by decide +kernel
theorem dX11_write_31 : decode cX11_write 31 = .ok (.aload_n 0, 1) := by decide +kernel
theorem dX11_write_32 : decode cX11_write 32 = .ok (.getfield 66, 3) := by decide +kernel
theorem dX11_write_35 : decode cX11_write 35 = .ok (.iload_n 1, 1) := by decide +kernel
theorem dX11_write_36 : decode cX11_write 36 = .ok (.iastore, 1) := by decide +kernel
theorem dX11_write_37 : decode cX11_write 37 = .ok (.aload_n 0, 1) := by decide +kernel
theorem dX11_write_38 : decode cX11_write 38 = .ok (.dup, 1) := by decide +kernel
theorem dX11_write_39 : decode cX11_write 39 = .ok (.getfield 66, 3) := by decide +kernel
theorem dX11_write_42 : decode cX11_write 42 = .ok (.iconst 1, 1) := by decide +kernel
theorem dX11_write_43 : decode cX11_write 43 = .ok (.iadd, 1) := by decide +kernel
theorem dX11_write_44 : decode cX11_write 44 = .ok (.putfield 66, 3) := by decide +kernel
theorem dX11_write_47 : decode cX11_write 47 = .ok (.aload_n 0, 1) := by decide +kernel
theorem dX11_write_48 : decode cX11_write 48 = .ok (.getfield 66, 3) := by decide +kernel
theorem dX11_write_51 : decode cX11_write 51 = .ok (.ireturn, 1) := by decide +kernel
theorem dX11_wipe_0 : decode cX11_wipe 0 = .ok (.aload_n 0, 1) := by decide +kernel
theorem dX11_wipe_1 : decode cX11_wipe 1 = .ok (.getfield 66, 3) := by decide +kernel
theorem dX11_wipe_4 : decode cX11_wipe 4 = .ok (.istore_n 1, 1) := by decide +kernel
theorem dX11_wipe_5 : decode cX11_wipe 5 = .ok (.aload_n 0, 1) := by decide +kernel
theorem dX11_wipe_6 : decode cX11_wipe 6 = .ok (.iconst 0, 1) := by decide +kernel
theorem dX11_wipe_7 : decode cX11_wipe 7 = .ok (.putfield 66, 3) := by decide +kernel
theorem dX11_wipe_10 : decode cX11_wipe 10 = .ok (.iload_n 1, 1) := by decide +kernel
theorem dX11_wipe_11 : decode cX11_wipe 11 = .ok (.ireturn, 1) := by decide +kernel
theorem dX11_figureOf_0 : decode cX11_figureOf 0 = .ok (.aload_n 0, 1) := by decide +kernel
theorem dX11_figureOf_1 : decode cX11_figureOf 1 = .ok (.getfield 69, 3) := by decide +kernel
theorem dX11_figureOf_4 : decode cX11_figureOf 4 = .ok (.bipush (-9), 2) := by decide +kernel
theorem dX11_figureOf_6 : decode cX11_figureOf 6 = .ok (.if_icmp .ne 29, 3) := by decide +kernel
theorem dX11_figureOf_9 : decode cX11_figureOf 9 = .ok (.aload_n 0, 1) := by decide +kernel
theorem dX11_figureOf_10 : decode cX11_figureOf 10 = .ok (.getfield 72, 3) := by decide +kernel
theorem dX11_figureOf_13 : decode cX11_figureOf 13 = .ok (.aload_n 0, 1) := by decide +kernel
theorem dX11_figureOf_14 : decode cX11_figureOf 14 = .ok (.getfield 66, 3) := by decide +kernel
theorem dX11_figureOf_17 : decode cX11_figureOf 17 = .ok (.if_icmp .ge 18, 3) := by decide +kernel
theorem dX11_figureOf_20 : decode cX11_figureOf 20 = .ok (.aload_n 0, 1) := by decide +kernel
theorem dX11_figureOf_21 : decode cX11_figureOf 21 = .ok (.getfield 34, 3) := by decide +kernel
theorem dX11_figureOf_24 : decode cX11_figureOf 24 = .ok (.aload_n 0, 1) := by decide +kernel
theorem dX11_figureOf_25 : decode cX11_figureOf 25 = .ok (.getfield 72, 3) := by decide +kernel
theorem dX11_figureOf_28 : decode cX11_figureOf 28 = .ok (.iaload, 1) := by decide +kernel
theorem dX11_figureOf_29 : decode cX11_figureOf 29 = .ok (.bipush 48, 2) := by decide +kernel
theorem dX11_figureOf_31 : decode cX11_figureOf 31 = .ok (.isub, 1) := by decide +kernel
theorem dX11_figureOf_32 : decode cX11_figureOf 32 = .ok (.goto 5, 3) := by decide +kernel
theorem dX11_figureOf_35 : decode cX11_figureOf 35 = .ok (.bipush (-9), 2) := by decide +kernel
theorem dX11_figureOf_37 : decode cX11_figureOf 37 = .ok (.istore_n 2, 1) := by decide +kernel
theorem dX11_figureOf_38 : decode cX11_figureOf 38 = .ok (.iload_n 2, 1) := by decide +kernel
theorem dX11_figureOf_39 : decode cX11_figureOf 39 = .ok (.i2l, 1) := by decide +kernel
theorem dX11_figureOf_40 : decode cX11_figureOf 40 = .ok (.lconst 0, 1) := by decide +kernel
theorem dX11_figureOf_41 : decode cX11_figureOf 41 = .ok (.ldc2_w 75, 3) := by decide +kernel
theorem dX11_figureOf_44 : decode cX11_figureOf 44 = .ok (.invokestatic 62, 3) := by decide +kernel
theorem dX11_figureOf_47 : decode cX11_figureOf 47 = .ok (.ifCond .eq 11, 3) := by decide +kernel
theorem dX11_figureOf_50 : decode cX11_figureOf 50 = .ok (.iload_n 1, 1) := by decide +kernel
theorem dX11_figureOf_51 : decode cX11_figureOf 51 = .ok (.iload_n 2, 1) := by decide +kernel
theorem dX11_figureOf_52 : decode cX11_figureOf 52 = .ok (.invokestatic 77, 3) := by decide +kernel
theorem dX11_figureOf_55 : decode cX11_figureOf 55 = .ok (.ifCond .ne 29, 3) := by decide +kernel
theorem dX11_figureOf_58 : decode cX11_figureOf 58 = .ok (.aload_n 0, 1) := by decide +kernel
theorem dX11_figureOf_59 : decode cX11_figureOf 59 = .ok (.aload_n 0, 1) := by decide +kernel
theorem dX11_figureOf_60 : decode cX11_figureOf 60 = .ok (.getfield 69, 3) := by decide +kernel
theorem dX11_figureOf_63 : decode cX11_figureOf 63 = .ok (.bipush (-9), 2) := by decide +kernel
theorem dX11_figureOf_65 : decode cX11_figureOf 65 = .ok (.if_icmp .ne 10, 3) := by decide +kernel
theorem dX11_figureOf_68 : decode cX11_figureOf 68 = .ok (.aload_n 0, 1) := by decide +kernel
theorem dX11_figureOf_69 : decode cX11_figureOf 69 = .ok (.getfield 72, 3) := by decide +kernel
theorem dX11_figureOf_72 : decode cX11_figureOf 72 = .ok (.goto 7, 3) := by decide +kernel
theorem dX11_figureOf_75 : decode cX11_figureOf 75 = .ok (.aload_n 0, 1) := by decide +kernel
theorem dX11_figureOf_76 : decode cX11_figureOf 76 = .ok (.getfield 69, 3) := by decide +kernel
theorem dX11_figureOf_79 : decode cX11_figureOf 79 = .ok (.putfield 69, 3) := by decide +kernel
theorem dX11_figureOf_82 : decode cX11_figureOf 82 = .ok (.iconst 0, 1) := by decide +kernel
theorem dX11_figureOf_83 : decode cX11_figureOf 83 = .ok (.ireturn, 1) := by decide +kernel
theorem dX11_figureOf_84 : decode cX11_figureOf 84 = .ok (.aload_n 0, 1) := by decide +kernel
theorem dX11_figureOf_85 : decode cX11_figureOf 85 = .ok (.dup, 1) := by decide +kernel
theorem dX11_figureOf_86 : decode cX11_figureOf 86 = .ok (.getfield 72, 3) := by decide +kernel
theorem dX11_figureOf_89 : decode cX11_figureOf 89 = .ok (.iconst 1, 1) := by decide +kernel
theorem dX11_figureOf_90 : decode cX11_figureOf 90 = .ok (.iadd, 1) := by decide +kernel
theorem dX11_figureOf_91 : decode cX11_figureOf 91 = .ok (.putfield 72, 3) := by decide +kernel
theorem dX11_figureOf_94 : decode cX11_figureOf 94 = .ok (.iload_n 2, 1) := by decide +kernel
theorem dX11_figureOf_95 : decode cX11_figureOf 95 = .ok (.ireturn, 1) := by decide +kernel
theorem dX11_freeOf_0 : decode cX11_freeOf 0 = .ok (.iconst 1, 1) := by decide +kernel
theorem dX11_freeOf_1 : decode cX11_freeOf 1 = .ok (.aload_n 0, 1) := by decide +kernel
theorem dX11_freeOf_2 : decode cX11_freeOf 2 = .ok (.getfield 81, 3) := by decide +kernel
theorem dX11_freeOf_5 : decode cX11_freeOf 5 = .ok (.ishl, 1) := by decide +kernel
theorem dX11_freeOf_6 : decode cX11_freeOf 6 = .ok (.iconst 1, 1) := by decide +kernel
theorem dX11_freeOf_7 : decode cX11_freeOf 7 = .ok (.isub, 1) := by decide +kernel
theorem dX11_freeOf_8 : decode cX11_freeOf 8 = .ok (.aload_n 0, 1) := by decide +kernel
theorem dX11_freeOf_9 : decode cX11_freeOf 9 = .ok (.getfield 31, 3) := by decide +kernel
theorem dX11_freeOf_12 : decode cX11_freeOf 12 = .ok (.iload_n 1, 1) := by decide +kernel
theorem dX11_freeOf_13 : decode cX11_freeOf 13 = .ok (.iaload, 1) := by decide +kernel
theorem dX11_freeOf_14 : decode cX11_freeOf 14 = .ok (.iconst (-1), 1) := by decide +kernel
theorem dX11_freeOf_15 : decode cX11_freeOf 15 = .ok (.ixor, 1) := by decide +kernel
theorem dX11_freeOf_16 : decode cX11_freeOf 16 = .ok (.iand, 1) := by decide +kernel
theorem dX11_freeOf_17 : decode cX11_freeOf 17 = .ok (.ireturn, 1) := by decide +kernel
theorem dX11_firstsLeft_0 : decode cX11_firstsLeft 0 = .ok (.iconst 0, 1) := by decide +kernel
theorem dX11_firstsLeft_1 : decode cX11_firstsLeft 1 = .ok (.istore_n 1, 1) := by decide +kernel
theorem dX11_firstsLeft_2 : decode cX11_firstsLeft 2 = .ok (.iconst 0, 1) := by decide +kernel
theorem dX11_firstsLeft_3 : decode cX11_firstsLeft 3 = .ok (.istore_n 2, 1) := by decide +kernel
theorem dX11_firstsLeft_4 : decode cX11_firstsLeft 4 = .ok (.iload_n 2, 1) := by decide +kernel
theorem dX11_firstsLeft_5 : decode cX11_firstsLeft 5 = .ok (.aload_n 0, 1) := by decide +kernel
theorem dX11_firstsLeft_6 : decode cX11_firstsLeft 6 = .ok (.getfield 84, 3) := by decide +kernel
theorem dX11_firstsLeft_9 : decode cX11_firstsLeft 9 = .ok (.if_icmp .ge 27, 3) := by decide +kernel
theorem dX11_firstsLeft_12 : decode cX11_firstsLeft 12 = .ok (.iload_n 1, 1) := by decide +kernel
theorem dX11_firstsLeft_13 : decode cX11_firstsLeft 13 = .ok (.aload_n 0, 1) := by decide +kernel
theorem dX11_firstsLeft_14 : decode cX11_firstsLeft 14 = .ok (.iload_n 2, 1) := by decide +kernel
theorem dX11_firstsLeft_15 : decode cX11_firstsLeft 15 = .ok (.invokevirtual 87, 3) := by decide +kernel
theorem dX11_firstsLeft_18 : decode cX11_firstsLeft 18 = .ok (.ifCond .eq 9, 3) := by decide +kernel
theorem dX11_firstsLeft_21 : decode cX11_firstsLeft 21 = .ok (.iconst 1, 1) := by decide +kernel
theorem dX11_firstsLeft_22 : decode cX11_firstsLeft 22 = .ok (.iload_n 2, 1) := by decide +kernel
theorem dX11_firstsLeft_23 : decode cX11_firstsLeft 23 = .ok (.ishl, 1) := by decide +kernel
theorem dX11_firstsLeft_24 : decode cX11_firstsLeft 24 = .ok (.goto 4, 3) := by decide +kernel
theorem dX11_firstsLeft_27 : decode cX11_firstsLeft 27 = .ok (.iconst 0, 1) := by decide +kernel
theorem dX11_firstsLeft_28 : decode cX11_firstsLeft 28 = .ok (.ior, 1) := by decide +kernel
theorem dX11_firstsLeft_29 : decode cX11_firstsLeft 29 = .ok (.istore_n 1, 1) := by decide +kernel
theorem dX11_firstsLeft_30 : decode cX11_firstsLeft 30 = .ok (.iinc 2 1, 3) := by decide +kernel
theorem dX11_firstsLeft_33 : decode cX11_firstsLeft 33 = .ok (.goto (-29), 3) := by decide +kernel
theorem dX11_firstsLeft_36 : decode cX11_firstsLeft 36 = .ok (.iload_n 1, 1) := by decide +kernel
theorem dX11_firstsLeft_37 : decode cX11_firstsLeft 37 = .ok (.ireturn, 1) := by decide +kernel
theorem dX11_readText_0 : decode cX11_readText 0 = .ok (.aload_n 0, 1) := by decide +kernel
theorem dX11_readText_1 : decode cX11_readText 1 = .ok (.iconst 0, 1) := by decide +kernel
theorem dX11_readText_2 : decode cX11_readText 2 = .ok (.putfield 72, 3) := by decide +kernel
theorem dX11_readText_5 : decode cX11_readText 5 = .ok (.aload_n 0, 1) := by decide +kernel
theorem dX11_readText_6 : decode cX11_readText 6 = .ok (.bipush (-9), 2) := by decide +kernel
theorem dX11_readText_8 : decode cX11_readText 8 = .ok (.putfield 69, 3) := by decide +kernel
theorem dX11_readText_11 : decode cX11_readText 11 = .ok (.aload_n 0, 1) := by decide +kernel
theorem dX11_readText_12 : decode cX11_readText 12 = .ok (.iconst 0, 1) := by decide +kernel
theorem dX11_readText_13 : decode cX11_readText 13 = .ok (.putfield 81, 3) := by decide +kernel
theorem dX11_readText_16 : decode cX11_readText 16 = .ok (.aload_n 0, 1) := by decide +kernel
theorem dX11_readText_17 : decode cX11_readText 17 = .ok (.iconst 0, 1) := by decide +kernel
theorem dX11_readText_18 : decode cX11_readText 18 = .ok (.putfield 84, 3) := by decide +kernel
theorem dX11_readText_21 : decode cX11_readText 21 = .ok (.iconst 0, 1) := by decide +kernel
theorem dX11_readText_22 : decode cX11_readText 22 = .ok (.istore_n 1, 1) := by decide +kernel
theorem dX11_readText_23 : decode cX11_readText 23 = .ok (.iload_n 1, 1) := by decide +kernel
theorem dX11_readText_24 : decode cX11_readText 24 = .ok (.iconst 4, 1) := by decide +kernel
theorem dX11_readText_25 : decode cX11_readText 25 = .ok (.if_icmp .ge 16, 3) := by decide +kernel
theorem dX11_readText_28 : decode cX11_readText 28 = .ok (.aload_n 0, 1) := by decide +kernel
theorem dX11_readText_29 : decode cX11_readText 29 = .ok (.getfield 31, 3) := by decide +kernel
theorem dX11_readText_32 : decode cX11_readText 32 = .ok (.iload_n 1, 1) := by decide +kernel
theorem dX11_readText_33 : decode cX11_readText 33 = .ok (.iconst 0, 1) := by decide +kernel
theorem dX11_readText_34 : decode cX11_readText 34 = .ok (.iastore, 1) := by decide +kernel
theorem dX11_readText_35 : decode cX11_readText 35 = .ok (.iinc 1 1, 3) := by decide +kernel
theorem dX11_readText_38 : decode cX11_readText 38 = .ok (.goto (-15), 3) := by decide +kernel
theorem dX11_readText_41 : decode cX11_readText 41 = .ok (.aload_n 0, 1) := by decide +kernel
theorem dX11_readText_42 : decode cX11_readText 42 = .ok (.getfield 66, 3) := by decide +kernel
theorem dX11_readText_45 : decode cX11_readText 45 = .ok (.ifCond .eq 14, 3) := by decide +kernel
theorem dX11_readText_48 : decode cX11_readText 48 = .ok (.aload_n 0, 1) := by decide +kernel
theorem dX11_readText_49 : decode cX11_readText 49 = .ok (.getfield 34, 3) := by decide +kernel
theorem dX11_readText_52 : decode cX11_readText 52 = .ok (.iconst 0, 1) := by decide +kernel
theorem dX11_readText_53 : decode cX11_readText 53 = .ok (.iaload, 1) := by decide +kernel
theorem dX11_readText_54 : decode cX11_readText 54 = .ok (.bipush 71, 2) := by decide +kernel
theorem dX11_readText_56 : decode cX11_readText 56 = .ok (.if_icmp .eq 5, 3) := by decide +kernel
theorem dX11_readText_59 : decode cX11_readText 59 = .ok (.iconst 0, 1) := by decide +kernel
theorem dX11_readText_60 : decode cX11_readText 60 = .ok (.ireturn, 1) := by decide +kernel
theorem dX11_readText_61 : decode cX11_readText 61 = .ok (.aload_n 0, 1) := by decide +kernel
theorem dX11_readText_62 : decode cX11_readText 62 = .ok (.iconst 1, 1) := by decide +kernel
theorem dX11_readText_63 : decode cX11_readText 63 = .ok (.putfield 72, 3) := by decide +kernel
theorem dX11_readText_66 : decode cX11_readText 66 = .ok (.aload_n 0, 1) := by decide +kernel
theorem dX11_readText_67 : decode cX11_readText 67 = .ok (.getfield 69, 3) := by decide +kernel
theorem dX11_readText_70 : decode cX11_readText 70 = .ok (.bipush (-9), 2) := by decide +kernel
theorem dX11_readText_72 : decode cX11_readText 72 = .ok (.if_icmp .ne 30, 3) := by decide +kernel
theorem dX11_readText_75 : decode cX11_readText 75 = .ok (.aload_n 0, 1) := by decide +kernel
theorem dX11_readText_76 : decode cX11_readText 76 = .ok (.getfield 72, 3) := by decide +kernel
theorem dX11_readText_79 : decode cX11_readText 79 = .ok (.aload_n 0, 1) := by decide +kernel
theorem dX11_readText_80 : decode cX11_readText 80 = .ok (.getfield 66, 3) := by decide +kernel
theorem dX11_readText_83 : decode cX11_readText 83 = .ok (.if_icmp .ge 19, 3) := by decide +kernel
theorem dX11_readText_86 : decode cX11_readText 86 = .ok (.aload_n 0, 1) := by decide +kernel
theorem dX11_readText_87 : decode cX11_readText 87 = .ok (.aload_n 0, 1) := by decide +kernel
theorem dX11_readText_88 : decode cX11_readText 88 = .ok (.getfield 34, 3) := by decide +kernel
theorem dX11_readText_91 : decode cX11_readText 91 = .ok (.aload_n 0, 1) := by decide +kernel
theorem dX11_readText_92 : decode cX11_readText 92 = .ok (.getfield 72, 3) := by decide +kernel
theorem dX11_readText_95 : decode cX11_readText 95 = .ok (.iaload, 1) := by decide +kernel
theorem dX11_readText_96 : decode cX11_readText 96 = .ok (.invokevirtual 91, 3) := by decide +kernel
theorem dX11_readText_99 : decode cX11_readText 99 = .ok (.goto (-33), 3) := by decide +kernel
theorem dX11_readText_102 : decode cX11_readText 102 = .ok (.aload_n 0, 1) := by decide +kernel
theorem dX11_readText_103 : decode cX11_readText 103 = .ok (.getfield 69, 3) := by decide +kernel
theorem dX11_readText_106 : decode cX11_readText 106 = .ok (.ireturn, 1) := by decide +kernel
theorem dX11_readPart_0 : decode cX11_readPart 0 = .ok (.iload_n 1, 1) := by decide +kernel
theorem dX11_readPart_1 : decode cX11_readPart 1 = .ok (.bipush 86, 2) := by decide +kernel
theorem dX11_readPart_3 : decode cX11_readPart 3 = .ok (.if_icmp .ne 92, 3) := by decide +kernel
theorem dX11_readPart_6 : decode cX11_readPart 6 = .ok (.aload_n 0, 1) := by decide +kernel
theorem dX11_readPart_7 : decode cX11_readPart 7 = .ok (.getfield 81, 3) := by decide +kernel
theorem dX11_readPart_10 : decode cX11_readPart 10 = .ok (.iconst 5, 1) := by decide +kernel
theorem dX11_readPart_11 : decode cX11_readPart 11 = .ok (.if_icmp .ge 84, 3) := by decide +kernel
theorem dX11_readPart_14 : decode cX11_readPart 14 = .ok (.aload_n 0, 1) := by decide +kernel
theorem dX11_readPart_15 : decode cX11_readPart 15 = .ok (.dup, 1) := by decide +kernel
theorem dX11_readPart_16 : decode cX11_readPart 16 = .ok (.getfield 72, 3) := by decide +kernel
theorem dX11_readPart_19 : decode cX11_readPart 19 = .ok (.iconst 1, 1) := by decide +kernel
theorem dX11_readPart_20 : decode cX11_readPart 20 = .ok (.iadd, 1) := by decide +kernel
theorem dX11_readPart_21 : decode cX11_readPart 21 = .ok (.putfield 72, 3) := by decide +kernel
theorem dX11_readPart_24 : decode cX11_readPart 24 = .ok (.iconst 3, 1) := by decide +kernel
theorem dX11_readPart_25 : decode cX11_readPart 25 = .ok (.aload_n 0, 1) := by decide +kernel
theorem dX11_readPart_26 : decode cX11_readPart 26 = .ok (.getfield 81, 3) := by decide +kernel
theorem dX11_readPart_29 : decode cX11_readPart 29 = .ok (.imul, 1) := by decide +kernel
theorem dX11_readPart_30 : decode cX11_readPart 30 = .ok (.istore_n 2, 1) := by decide +kernel
theorem dX11_readPart_31 : decode cX11_readPart 31 = .ok (.aload_n 0, 1) := by decide +kernel
theorem dX11_readPart_32 : decode cX11_readPart 32 = .ok (.getfield 25, 3) := by decide +kernel
theorem dX11_readPart_35 : decode cX11_readPart 35 = .ok (.iload_n 2, 1) := by decide +kernel
theorem dX11_readPart_36 : decode cX11_readPart 36 = .ok (.aload_n 0, 1) := by decide +kernel
theorem dX11_readPart_37 : decode cX11_readPart 37 = .ok (.sipush 1022, 3) := by decide +kernel
theorem dX11_readPart_40 : decode cX11_readPart 40 = .ok (.invokevirtual 95, 3) := by decide +kernel
theorem dX11_readPart_43 : decode cX11_readPart 43 = .ok (.iastore, 1) := by decide +kernel
theorem dX11_readPart_44 : decode cX11_readPart 44 = .ok (.aload_n 0, 1) := by decide +kernel
theorem dX11_readPart_45 : decode cX11_readPart 45 = .ok (.getfield 25, 3) := by decide +kernel
theorem dX11_readPart_48 : decode cX11_readPart 48 = .ok (.iload_n 2, 1) := by decide +kernel
theorem dX11_readPart_49 : decode cX11_readPart 49 = .ok (.iconst 1, 1) := by decide +kernel
theorem dX11_readPart_50 : decode cX11_readPart 50 = .ok (.iadd, 1) := by decide +kernel
theorem dX11_readPart_51 : decode cX11_readPart 51 = .ok (.aload_n 0, 1) := by decide +kernel
theorem dX11_readPart_52 : decode cX11_readPart 52 = .ok (.iconst 1, 1) := by decide +kernel
theorem dX11_readPart_53 : decode cX11_readPart 53 = .ok (.aload_n 0, 1) := by decide +kernel
theorem dX11_readPart_54 : decode cX11_readPart 54 = .ok (.getfield 25, 3) := by decide +kernel
theorem dX11_readPart_57 : decode cX11_readPart 57 = .ok (.iload_n 2, 1) := by decide +kernel
theorem dX11_readPart_58 : decode cX11_readPart 58 = .ok (.iaload, 1) := by decide +kernel
theorem dX11_readPart_59 : decode cX11_readPart 59 = .ok (.iconst 1, 1) := by decide +kernel
theorem dX11_readPart_60 : decode cX11_readPart 60 = .ok (.iadd, 1) := by decide +kernel
theorem dX11_readPart_61 : decode cX11_readPart 61 = .ok (.ishl, 1) := by decide +kernel
theorem dX11_readPart_62 : decode cX11_readPart 62 = .ok (.iconst 1, 1) := by decide +kernel
theorem dX11_readPart_63 : decode cX11_readPart 63 = .ok (.isub, 1) := by decide +kernel
theorem dX11_readPart_64 : decode cX11_readPart 64 = .ok (.invokevirtual 95, 3) := by decide +kernel
theorem dX11_readPart_67 : decode cX11_readPart 67 = .ok (.iastore, 1) := by decide +kernel
theorem dX11_readPart_68 : decode cX11_readPart 68 = .ok (.aload_n 0, 1) := by decide +kernel
theorem dX11_readPart_69 : decode cX11_readPart 69 = .ok (.getfield 25, 3) := by decide +kernel
theorem dX11_readPart_72 : decode cX11_readPart 72 = .ok (.iload_n 2, 1) := by decide +kernel
theorem dX11_readPart_73 : decode cX11_readPart 73 = .ok (.iconst 2, 1) := by decide +kernel
theorem dX11_readPart_74 : decode cX11_readPart 74 = .ok (.iadd, 1) := by decide +kernel
theorem dX11_readPart_75 : decode cX11_readPart 75 = .ok (.aload_n 0, 1) := by decide +kernel
theorem dX11_readPart_76 : decode cX11_readPart 76 = .ok (.bipush 15, 2) := by decide +kernel
theorem dX11_readPart_78 : decode cX11_readPart 78 = .ok (.invokevirtual 95, 3) := by decide +kernel
theorem dX11_readPart_81 : decode cX11_readPart 81 = .ok (.iastore, 1) := by decide +kernel
theorem dX11_readPart_82 : decode cX11_readPart 82 = .ok (.aload_n 0, 1) := by decide +kernel
theorem dX11_readPart_83 : decode cX11_readPart 83 = .ok (.dup, 1) := by decide +kernel
theorem dX11_readPart_84 : decode cX11_readPart 84 = .ok (.getfield 81, 3) := by decide +kernel
theorem dX11_readPart_87 : decode cX11_readPart 87 = .ok (.iconst 1, 1) := by decide +kernel
theorem dX11_readPart_88 : decode cX11_readPart 88 = .ok (.iadd, 1) := by decide +kernel
theorem dX11_readPart_89 : decode cX11_readPart 89 = .ok (.putfield 81, 3) := by decide +kernel
theorem dX11_readPart_92 : decode cX11_readPart 92 = .ok (.goto 155, 3) := by decide +kernel
theorem dX11_readPart_95 : decode cX11_readPart 95 = .ok (.iload_n 1, 1) := by decide +kernel
theorem dX11_readPart_96 : decode cX11_readPart 96 = .ok (.bipush 68, 2) := by decide +kernel
theorem dX11_readPart_98 : decode cX11_readPart 98 = .ok (.if_icmp .ne 71, 3) := by decide +kernel
theorem dX11_readPart_101 : decode cX11_readPart 101 = .ok (.aload_n 0, 1) := by decide +kernel
theorem dX11_readPart_102 : decode cX11_readPart 102 = .ok (.getfield 84, 3) := by decide +kernel
theorem dX11_readPart_105 : decode cX11_readPart 105 = .ok (.iconst 4, 1) := by decide +kernel
theorem dX11_readPart_106 : decode cX11_readPart 106 = .ok (.if_icmp .ge 63, 3) := by decide +kernel
theorem dX11_readPart_109 : decode cX11_readPart 109 = .ok (.aload_n 0, 1) := by decide +kernel
theorem dX11_readPart_110 : decode cX11_readPart 110 = .ok (.dup, 1) := by decide +kernel
theorem dX11_readPart_111 : decode cX11_readPart 111 = .ok (.getfield 72, 3) := by decide +kernel
theorem dX11_readPart_114 : decode cX11_readPart 114 = .ok (.iconst 1, 1) := by decide +kernel
theorem dX11_readPart_115 : decode cX11_readPart 115 = .ok (.iadd, 1) := by decide +kernel
theorem dX11_readPart_116 : decode cX11_readPart 116 = .ok (.putfield 72, 3) := by decide +kernel
theorem dX11_readPart_119 : decode cX11_readPart 119 = .ok (.aload_n 0, 1) := by decide +kernel
theorem dX11_readPart_120 : decode cX11_readPart 120 = .ok (.getfield 28, 3) := by decide +kernel
theorem dX11_readPart_123 : decode cX11_readPart 123 = .ok (.iconst 2, 1) := by decide +kernel
theorem dX11_readPart_124 : decode cX11_readPart 124 = .ok (.aload_n 0, 1) := by decide +kernel
theorem dX11_readPart_125 : decode cX11_readPart 125 = .ok (.getfield 84, 3) := by decide +kernel
theorem dX11_readPart_128 : decode cX11_readPart 128 = .ok (.imul, 1) := by decide +kernel
theorem dX11_readPart_129 : decode cX11_readPart 129 = .ok (.aload_n 0, 1) := by decide +kernel
theorem dX11_readPart_130 : decode cX11_readPart 130 = .ok (.sipush 1023, 3) := by decide +kernel
theorem dX11_readPart_133 : decode cX11_readPart 133 = .ok (.invokevirtual 95, 3) := by decide +kernel
theorem dX11_readPart_136 : decode cX11_readPart 136 = .ok (.iastore, 1) := by decide +kernel
theorem dX11_readPart_137 : decode cX11_readPart 137 = .ok (.aload_n 0, 1) := by decide +kernel
theorem dX11_readPart_138 : decode cX11_readPart 138 = .ok (.getfield 28, 3) := by decide +kernel
theorem dX11_readPart_141 : decode cX11_readPart 141 = .ok (.iconst 2, 1) := by decide +kernel
theorem dX11_readPart_142 : decode cX11_readPart 142 = .ok (.aload_n 0, 1) := by decide +kernel
theorem dX11_readPart_143 : decode cX11_readPart 143 = .ok (.getfield 84, 3) := by decide +kernel
theorem dX11_readPart_146 : decode cX11_readPart 146 = .ok (.imul, 1) := by decide +kernel
theorem dX11_readPart_147 : decode cX11_readPart 147 = .ok (.iconst 1, 1) := by decide +kernel
theorem dX11_readPart_148 : decode cX11_readPart 148 = .ok (.iadd, 1) := by decide +kernel
theorem dX11_readPart_149 : decode cX11_readPart 149 = .ok (.aload_n 0, 1) := by decide +kernel
theorem dX11_readPart_150 : decode cX11_readPart 150 = .ok (.bipush 15, 2) := by decide +kernel
theorem dX11_readPart_152 : decode cX11_readPart 152 = .ok (.invokevirtual 95, 3) := by decide +kernel
theorem dX11_readPart_155 : decode cX11_readPart 155 = .ok (.iastore, 1) := by decide +kernel
theorem dX11_readPart_156 : decode cX11_readPart 156 = .ok (.aload_n 0, 1) := by decide +kernel
theorem dX11_readPart_157 : decode cX11_readPart 157 = .ok (.dup, 1) := by decide +kernel
theorem dX11_readPart_158 : decode cX11_readPart 158 = .ok (.getfield 84, 3) := by decide +kernel
theorem dX11_readPart_161 : decode cX11_readPart 161 = .ok (.iconst 1, 1) := by decide +kernel
theorem dX11_readPart_162 : decode cX11_readPart 162 = .ok (.iadd, 1) := by decide +kernel
theorem dX11_readPart_163 : decode cX11_readPart 163 = .ok (.putfield 84, 3) := by decide +kernel
theorem dX11_readPart_166 : decode cX11_readPart 166 = .ok (.goto 81, 3) := by decide +kernel
theorem dX11_readPart_169 : decode cX11_readPart 169 = .ok (.iload_n 1, 1) := by decide +kernel
theorem dX11_readPart_170 : decode cX11_readPart 170 = .ok (.bipush 83, 2) := by decide +kernel
theorem dX11_readPart_172 : decode cX11_readPart 172 = .ok (.if_icmp .ne 67, 3) := by decide +kernel
theorem dX11_readPart_175 : decode cX11_readPart 175 = .ok (.aload_n 0, 1) := by decide +kernel
theorem dX11_readPart_176 : decode cX11_readPart 176 = .ok (.invokevirtual 98, 3) := by decide +kernel
theorem dX11_readPart_179 : decode cX11_readPart 179 = .ok (.ifCond .eq 60, 3) := by decide +kernel
theorem dX11_readPart_182 : decode cX11_readPart 182 = .ok (.aload_n 0, 1) := by decide +kernel
theorem dX11_readPart_183 : decode cX11_readPart 183 = .ok (.dup, 1) := by decide +kernel
theorem dX11_readPart_184 : decode cX11_readPart 184 = .ok (.getfield 72, 3) := by decide +kernel
theorem dX11_readPart_187 : decode cX11_readPart 187 = .ok (.iconst 1, 1) := by decide +kernel
theorem dX11_readPart_188 : decode cX11_readPart 188 = .ok (.iadd, 1) := by decide +kernel
theorem dX11_readPart_189 : decode cX11_readPart 189 = .ok (.putfield 72, 3) := by decide +kernel
theorem dX11_readPart_192 : decode cX11_readPart 192 = .ok (.aload_n 0, 1) := by decide +kernel
theorem dX11_readPart_193 : decode cX11_readPart 193 = .ok (.aload_n 0, 1) := by decide +kernel
theorem dX11_readPart_194 : decode cX11_readPart 194 = .ok (.invokevirtual 98, 3) := by decide +kernel
theorem dX11_readPart_197 : decode cX11_readPart 197 = .ok (.invokevirtual 95, 3) := by decide +kernel
theorem dX11_readPart_200 : decode cX11_readPart 200 = .ok (.istore_n 2, 1) := by decide +kernel
theorem dX11_readPart_201 : decode cX11_readPart 201 = .ok (.aload_n 0, 1) := by decide +kernel
theorem dX11_readPart_202 : decode cX11_readPart 202 = .ok (.aload_n 0, 1) := by decide +kernel
theorem dX11_readPart_203 : decode cX11_readPart 203 = .ok (.iload_n 2, 1) := by decide +kernel
theorem dX11_readPart_204 : decode cX11_readPart 204 = .ok (.invokevirtual 87, 3) := by decide +kernel
theorem dX11_readPart_207 : decode cX11_readPart 207 = .ok (.invokevirtual 95, 3) := by decide +kernel
theorem dX11_readPart_210 : decode cX11_readPart 210 = .ok (.istore_n 3, 1) := by decide +kernel
theorem dX11_readPart_211 : decode cX11_readPart 211 = .ok (.aload_n 0, 1) := by decide +kernel
theorem dX11_readPart_212 : decode cX11_readPart 212 = .ok (.getfield 31, 3) := by decide +kernel
theorem dX11_readPart_215 : decode cX11_readPart 215 = .ok (.iload_n 2, 1) := by decide +kernel
theorem dX11_readPart_216 : decode cX11_readPart 216 = .ok (.dup2, 1) := by decide +kernel
theorem dX11_readPart_217 : decode cX11_readPart 217 = .ok (.iaload, 1) := by decide +kernel
theorem dX11_readPart_218 : decode cX11_readPart 218 = .ok (.aload_n 0, 1) := by decide +kernel
theorem dX11_readPart_219 : decode cX11_readPart 219 = .ok (.getfield 69, 3) := by decide +kernel
theorem dX11_readPart_222 : decode cX11_readPart 222 = .ok (.bipush (-9), 2) := by decide +kernel
theorem dX11_readPart_224 : decode cX11_readPart 224 = .ok (.if_icmp .ne 9, 3) := by decide +kernel
theorem dX11_readPart_227 : decode cX11_readPart 227 = .ok (.iconst 1, 1) := by decide +kernel
theorem dX11_readPart_228 : decode cX11_readPart 228 = .ok (.iload_n 3, 1) := by decide +kernel
theorem dX11_readPart_229 : decode cX11_readPart 229 = .ok (.ishl, 1) := by decide +kernel
theorem dX11_readPart_230 : decode cX11_readPart 230 = .ok (.goto 4, 3) := by decide +kernel
theorem dX11_readPart_233 : decode cX11_readPart 233 = .ok (.iconst 0, 1) := by decide +kernel
theorem dX11_readPart_234 : decode cX11_readPart 234 = .ok (.ior, 1) := by decide +kernel
theorem dX11_readPart_235 : decode cX11_readPart 235 = .ok (.iastore, 1) := by decide +kernel
theorem dX11_readPart_236 : decode cX11_readPart 236 = .ok (.goto 11, 3) := by decide +kernel
theorem dX11_readPart_239 : decode cX11_readPart 239 = .ok (.aload_n 0, 1) := by decide +kernel
theorem dX11_readPart_240 : decode cX11_readPart 240 = .ok (.aload_n 0, 1) := by decide +kernel
theorem dX11_readPart_241 : decode cX11_readPart 241 = .ok (.getfield 72, 3) := by decide +kernel
theorem dX11_readPart_244 : decode cX11_readPart 244 = .ok (.putfield 69, 3) := by decide +kernel
theorem dX11_readPart_247 : decode cX11_readPart 247 = .ok (.return_, 1) := by decide +kernel
theorem dX11_fault_0 : decode cX11_fault 0 = .ok (.aload_n 0, 1) := by decide +kernel
theorem dX11_fault_1 : decode cX11_fault 1 = .ok (.invokevirtual 102, 3) := by decide +kernel
theorem dX11_fault_4 : decode cX11_fault 4 = .ok (.ireturn, 1) := by decide +kernel
theorem dX11_inn_0 : decode cX11_inn 0 = .ok (.aload_n 0, 1) := by decide +kernel
theorem dX11_inn_1 : decode cX11_inn 1 = .ok (.invokevirtual 102, 3) := by decide +kernel
theorem dX11_inn_4 : decode cX11_inn 4 = .ok (.bipush (-9), 2) := by decide +kernel
theorem dX11_inn_6 : decode cX11_inn 6 = .ok (.if_icmp .eq 6, 3) := by decide +kernel
theorem dX11_inn_9 : decode cX11_inn 9 = .ok (.bipush (-3), 2) := by decide +kernel
theorem dX11_inn_11 : decode cX11_inn 11 = .ok (.ireturn, 1) := by decide +kernel
theorem dX11_inn_12 : decode cX11_inn 12 = .ok (.aload_n 0, 1) := by decide +kernel
theorem dX11_inn_13 : decode cX11_inn 13 = .ok (.aload_n 0, 1) := by decide +kernel
theorem dX11_inn_14 : decode cX11_inn 14 = .ok (.getfield 81, 3) := by decide +kernel
theorem dX11_inn_17 : decode cX11_inn 17 = .ok (.putfield 56, 3) := by decide +kernel
theorem dX11_inn_20 : decode cX11_inn 20 = .ok (.aload_n 0, 1) := by decide +kernel
theorem dX11_inn_21 : decode cX11_inn 21 = .ok (.aload_n 0, 1) := by decide +kernel
theorem dX11_inn_22 : decode cX11_inn 22 = .ok (.getfield 84, 3) := by decide +kernel
theorem dX11_inn_25 : decode cX11_inn 25 = .ok (.putfield 105, 3) := by decide +kernel
theorem dX11_inn_28 : decode cX11_inn 28 = .ok (.iconst 0, 1) := by decide +kernel
theorem dX11_inn_29 : decode cX11_inn 29 = .ok (.istore_n 1, 1) := by decide +kernel
theorem dX11_inn_30 : decode cX11_inn 30 = .ok (.iload_n 1, 1) := by decide +kernel
theorem dX11_inn_31 : decode cX11_inn 31 = .ok (.bipush 15, 2) := by decide +kernel
theorem dX11_inn_33 : decode cX11_inn 33 = .ok (.if_icmp .ge 16, 3) := by decide +kernel
theorem dX11_inn_36 : decode cX11_inn 36 = .ok (.aload_n 0, 1) := by decide +kernel
theorem dX11_inn_37 : decode cX11_inn 37 = .ok (.getfield 22, 3) := by decide +kernel
theorem dX11_inn_40 : decode cX11_inn 40 = .ok (.iload_n 1, 1) := by decide +kernel
theorem dX11_inn_41 : decode cX11_inn 41 = .ok (.iconst 0, 1) := by decide +kernel
theorem dX11_inn_42 : decode cX11_inn 42 = .ok (.iastore, 1) := by decide +kernel
theorem dX11_inn_43 : decode cX11_inn 43 = .ok (.iinc 1 1, 3) := by decide +kernel
theorem dX11_inn_46 : decode cX11_inn 46 = .ok (.goto (-16), 3) := by decide +kernel
theorem dX11_inn_49 : decode cX11_inn 49 = .ok (.iconst 0, 1) := by decide +kernel
theorem dX11_inn_50 : decode cX11_inn 50 = .ok (.istore_n 1, 1) := by decide +kernel
theorem dX11_inn_51 : decode cX11_inn 51 = .ok (.iload_n 1, 1) := by decide +kernel
theorem dX11_inn_52 : decode cX11_inn 52 = .ok (.aload_n 0, 1) := by decide +kernel
theorem dX11_inn_53 : decode cX11_inn 53 = .ok (.getfield 56, 3) := by decide +kernel
theorem dX11_inn_56 : decode cX11_inn 56 = .ok (.if_icmp .ge 55, 3) := by decide +kernel
theorem dX11_inn_59 : decode cX11_inn 59 = .ok (.aload_n 0, 1) := by decide +kernel
theorem dX11_inn_60 : decode cX11_inn 60 = .ok (.getfield 7, 3) := by decide +kernel
theorem dX11_inn_63 : decode cX11_inn 63 = .ok (.iload_n 1, 1) := by decide +kernel
theorem dX11_inn_64 : decode cX11_inn 64 = .ok (.aload_n 0, 1) := by decide +kernel
theorem dX11_inn_65 : decode cX11_inn 65 = .ok (.getfield 25, 3) := by decide +kernel
theorem dX11_inn_68 : decode cX11_inn 68 = .ok (.iconst 3, 1) := by decide +kernel
theorem dX11_inn_69 : decode cX11_inn 69 = .ok (.iload_n 1, 1) := by decide +kernel
theorem dX11_inn_70 : decode cX11_inn 70 = .ok (.imul, 1) := by decide +kernel
theorem dX11_inn_71 : decode cX11_inn 71 = .ok (.iaload, 1) := by decide +kernel
theorem dX11_inn_72 : decode cX11_inn 72 = .ok (.iastore, 1) := by decide +kernel
theorem dX11_inn_73 : decode cX11_inn 73 = .ok (.aload_n 0, 1) := by decide +kernel
theorem dX11_inn_74 : decode cX11_inn 74 = .ok (.getfield 22, 3) := by decide +kernel
theorem dX11_inn_77 : decode cX11_inn 77 = .ok (.iload_n 1, 1) := by decide +kernel
theorem dX11_inn_78 : decode cX11_inn 78 = .ok (.aload_n 0, 1) := by decide +kernel
theorem dX11_inn_79 : decode cX11_inn 79 = .ok (.getfield 25, 3) := by decide +kernel
theorem dX11_inn_82 : decode cX11_inn 82 = .ok (.iconst 3, 1) := by decide +kernel
theorem dX11_inn_83 : decode cX11_inn 83 = .ok (.iload_n 1, 1) := by decide +kernel
theorem dX11_inn_84 : decode cX11_inn 84 = .ok (.imul, 1) := by decide +kernel
theorem dX11_inn_85 : decode cX11_inn 85 = .ok (.iconst 1, 1) := by decide +kernel
theorem dX11_inn_86 : decode cX11_inn 86 = .ok (.iadd, 1) := by decide +kernel
theorem dX11_inn_87 : decode cX11_inn 87 = .ok (.iaload, 1) := by decide +kernel
theorem dX11_inn_88 : decode cX11_inn 88 = .ok (.iastore, 1) := by decide +kernel
theorem dX11_inn_89 : decode cX11_inn 89 = .ok (.aload_n 0, 1) := by decide +kernel
theorem dX11_inn_90 : decode cX11_inn 90 = .ok (.getfield 13, 3) := by decide +kernel
theorem dX11_inn_93 : decode cX11_inn 93 = .ok (.iload_n 1, 1) := by decide +kernel
theorem dX11_inn_94 : decode cX11_inn 94 = .ok (.aload_n 0, 1) := by decide +kernel
theorem dX11_inn_95 : decode cX11_inn 95 = .ok (.getfield 25, 3) := by decide +kernel
theorem dX11_inn_98 : decode cX11_inn 98 = .ok (.iconst 3, 1) := by decide +kernel
theorem dX11_inn_99 : decode cX11_inn 99 = .ok (.iload_n 1, 1) := by decide +kernel
theorem dX11_inn_100 : decode cX11_inn 100 = .ok (.imul, 1) := by decide +kernel
theorem dX11_inn_101 : decode cX11_inn 101 = .ok (.iconst 2, 1) := by decide +kernel
theorem dX11_inn_102 : decode cX11_inn 102 = .ok (.iadd, 1) := by decide +kernel
theorem dX11_inn_103 : decode cX11_inn 103 = .ok (.iaload, 1) := by decide +kernel
theorem dX11_inn_104 : decode cX11_inn 104 = .ok (.iastore, 1) := by decide +kernel
theorem dX11_inn_105 : decode cX11_inn 105 = .ok (.iinc 1 1, 3) := by decide +kernel
theorem dX11_inn_108 : decode cX11_inn 108 = .ok (.goto (-57), 3) := by decide +kernel
theorem dX11_inn_111 : decode cX11_inn 111 = .ok (.iconst 0, 1) := by decide +kernel
theorem dX11_inn_112 : decode cX11_inn 112 = .ok (.istore_n 1, 1) := by decide +kernel
theorem dX11_inn_113 : decode cX11_inn 113 = .ok (.iload_n 1, 1) := by decide +kernel
theorem dX11_inn_114 : decode cX11_inn 114 = .ok (.aload_n 0, 1) := by decide +kernel
theorem dX11_inn_115 : decode cX11_inn 115 = .ok (.getfield 105, 3) := by decide +kernel
theorem dX11_inn_118 : decode cX11_inn 118 = .ok (.if_icmp .ge 54, 3) := by decide +kernel
theorem dX11_inn_121 : decode cX11_inn 121 = .ok (.aload_n 0, 1) := by decide +kernel
theorem dX11_inn_122 : decode cX11_inn 122 = .ok (.getfield 22, 3) := by decide +kernel
theorem dX11_inn_125 : decode cX11_inn 125 = .ok (.bipush 10, 2) := by decide +kernel
theorem dX11_inn_127 : decode cX11_inn 127 = .ok (.iload_n 1, 1) := by decide +kernel
theorem dX11_inn_128 : decode cX11_inn 128 = .ok (.iadd, 1) := by decide +kernel
theorem dX11_inn_129 : decode cX11_inn 129 = .ok (.aload_n 0, 1) := by decide +kernel
theorem dX11_inn_130 : decode cX11_inn 130 = .ok (.getfield 28, 3) := by decide +kernel
theorem dX11_inn_133 : decode cX11_inn 133 = .ok (.iconst 2, 1) := by decide +kernel
theorem dX11_inn_134 : decode cX11_inn 134 = .ok (.iload_n 1, 1) := by decide +kernel
theorem dX11_inn_135 : decode cX11_inn 135 = .ok (.imul, 1) := by decide +kernel
theorem dX11_inn_136 : decode cX11_inn 136 = .ok (.iaload, 1) := by decide +kernel
theorem dX11_inn_137 : decode cX11_inn 137 = .ok (.iastore, 1) := by decide +kernel
theorem dX11_inn_138 : decode cX11_inn 138 = .ok (.aload_n 0, 1) := by decide +kernel
theorem dX11_inn_139 : decode cX11_inn 139 = .ok (.getfield 16, 3) := by decide +kernel
theorem dX11_inn_142 : decode cX11_inn 142 = .ok (.iload_n 1, 1) := by decide +kernel
theorem dX11_inn_143 : decode cX11_inn 143 = .ok (.aload_n 0, 1) := by decide +kernel
theorem dX11_inn_144 : decode cX11_inn 144 = .ok (.getfield 28, 3) := by decide +kernel
theorem dX11_inn_147 : decode cX11_inn 147 = .ok (.iconst 2, 1) := by decide +kernel
theorem dX11_inn_148 : decode cX11_inn 148 = .ok (.iload_n 1, 1) := by decide +kernel
theorem dX11_inn_149 : decode cX11_inn 149 = .ok (.imul, 1) := by decide +kernel
theorem dX11_inn_150 : decode cX11_inn 150 = .ok (.iconst 1, 1) := by decide +kernel
theorem dX11_inn_151 : decode cX11_inn 151 = .ok (.iadd, 1) := by decide +kernel
theorem dX11_inn_152 : decode cX11_inn 152 = .ok (.iaload, 1) := by decide +kernel
theorem dX11_inn_153 : decode cX11_inn 153 = .ok (.iastore, 1) := by decide +kernel
theorem dX11_inn_154 : decode cX11_inn 154 = .ok (.aload_n 0, 1) := by decide +kernel
theorem dX11_inn_155 : decode cX11_inn 155 = .ok (.getfield 19, 3) := by decide +kernel
theorem dX11_inn_158 : decode cX11_inn 158 = .ok (.iload_n 1, 1) := by decide +kernel
theorem dX11_inn_159 : decode cX11_inn 159 = .ok (.aload_n 0, 1) := by decide +kernel
theorem dX11_inn_160 : decode cX11_inn 160 = .ok (.getfield 31, 3) := by decide +kernel
theorem dX11_inn_163 : decode cX11_inn 163 = .ok (.iload_n 1, 1) := by decide +kernel
theorem dX11_inn_164 : decode cX11_inn 164 = .ok (.iaload, 1) := by decide +kernel
theorem dX11_inn_165 : decode cX11_inn 165 = .ok (.iastore, 1) := by decide +kernel
theorem dX11_inn_166 : decode cX11_inn 166 = .ok (.iinc 1 1, 3) := by decide +kernel
theorem dX11_inn_169 : decode cX11_inn 169 = .ok (.goto (-56), 3) := by decide +kernel
theorem dX11_inn_172 : decode cX11_inn 172 = .ok (.aload_n 0, 1) := by decide +kernel
theorem dX11_inn_173 : decode cX11_inn 173 = .ok (.iconst 0, 1) := by decide +kernel
theorem dX11_inn_174 : decode cX11_inn 174 = .ok (.putfield 108, 3) := by decide +kernel
theorem dX11_inn_177 : decode cX11_inn 177 = .ok (.aload_n 0, 1) := by decide +kernel
theorem dX11_inn_178 : decode cX11_inn 178 = .ok (.getfield 49, 3) := by decide +kernel
theorem dX11_inn_181 : decode cX11_inn 181 = .ok (.iconst 0, 1) := by decide +kernel
theorem dX11_inn_182 : decode cX11_inn 182 = .ok (.iconst 0, 1) := by decide +kernel
theorem dX11_inn_183 : decode cX11_inn 183 = .ok (.bastore, 1) := by decide +kernel
theorem dX11_inn_184 : decode cX11_inn 184 = .ok (.aload_n 0, 1) := by decide +kernel
theorem dX11_inn_185 : decode cX11_inn 185 = .ok (.getfield 49, 3) := by decide +kernel
theorem dX11_inn_188 : decode cX11_inn 188 = .ok (.iconst 1, 1) := by decide +kernel
theorem dX11_inn_189 : decode cX11_inn 189 = .ok (.iconst 0, 1) := by decide +kernel
theorem dX11_inn_190 : decode cX11_inn 190 = .ok (.bastore, 1) := by decide +kernel
theorem dX11_inn_191 : decode cX11_inn 191 = .ok (.bipush 10, 2) := by decide +kernel
theorem dX11_inn_193 : decode cX11_inn 193 = .ok (.aload_n 0, 1) := by decide +kernel
theorem dX11_inn_194 : decode cX11_inn 194 = .ok (.getfield 56, 3) := by decide +kernel
theorem dX11_inn_197 : decode cX11_inn 197 = .ok (.imul, 1) := by decide +kernel
theorem dX11_inn_198 : decode cX11_inn 198 = .ok (.aload_n 0, 1) := by decide +kernel
theorem dX11_inn_199 : decode cX11_inn 199 = .ok (.getfield 105, 3) := by decide +kernel
theorem dX11_inn_202 : decode cX11_inn 202 = .ok (.iadd, 1) := by decide +kernel
theorem dX11_inn_203 : decode cX11_inn 203 = .ok (.ireturn, 1) := by decide +kernel
theorem dX11_isGlass_0 : decode cX11_isGlass 0 = .ok (.iload_n 1, 1) := by decide +kernel
theorem dX11_isGlass_1 : decode cX11_isGlass 1 = .ok (.i2l, 1) := by decide +kernel
theorem dX11_isGlass_2 : decode cX11_isGlass 2 = .ok (.lconst 0, 1) := by decide +kernel
theorem dX11_isGlass_3 : decode cX11_isGlass 3 = .ok (.aload_n 0, 1) := by decide +kernel
theorem dX11_isGlass_4 : decode cX11_isGlass 4 = .ok (.getfield 56, 3) := by decide +kernel
theorem dX11_isGlass_7 : decode cX11_isGlass 7 = .ok (.iconst 1, 1) := by decide +kernel
theorem dX11_isGlass_8 : decode cX11_isGlass 8 = .ok (.isub, 1) := by decide +kernel
theorem dX11_isGlass_9 : decode cX11_isGlass 9 = .ok (.i2l, 1) := by decide +kernel
theorem dX11_isGlass_10 : decode cX11_isGlass 10 = .ok (.invokestatic 62, 3) := by decide +kernel
theorem dX11_isGlass_13 : decode cX11_isGlass 13 = .ok (.ireturn, 1) := by decide +kernel
theorem dX11_isDrinker_0 : decode cX11_isDrinker 0 = .ok (.iload_n 1, 1) := by decide +kernel
theorem dX11_isDrinker_1 : decode cX11_isDrinker 1 = .ok (.i2l, 1) := by decide +kernel
theorem dX11_isDrinker_2 : decode cX11_isDrinker 2 = .ok (.lconst 0, 1) := by decide +kernel
theorem dX11_isDrinker_3 : decode cX11_isDrinker 3 = .ok (.aload_n 0, 1) := by decide +kernel
theorem dX11_isDrinker_4 : decode cX11_isDrinker 4 = .ok (.getfield 105, 3) := by decide +kernel
theorem dX11_isDrinker_7 : decode cX11_isDrinker 7 = .ok (.iconst 1, 1) := by decide +kernel
theorem dX11_isDrinker_8 : decode cX11_isDrinker 8 = .ok (.isub, 1) := by decide +kernel
theorem dX11_isDrinker_9 : decode cX11_isDrinker 9 = .ok (.i2l, 1) := by decide +kernel
theorem dX11_isDrinker_10 : decode cX11_isDrinker 10 = .ok (.invokestatic 62, 3) := by decide +kernel
theorem dX11_isDrinker_13 : decode cX11_isDrinker 13 = .ok (.ireturn, 1) := by decide +kernel
theorem dX11_drinks_0 : decode cX11_drinks 0 = .ok (.iload_n 2, 1) := by decide +kernel
theorem dX11_drinks_1 : decode cX11_drinks 1 = .ok (.iconst 3, 1) := by decide +kernel
theorem dX11_drinks_2 : decode cX11_drinks 2 = .ok (.if_icmp .ne 7, 3) := by decide +kernel
theorem dX11_drinks_5 : decode cX11_drinks 5 = .ok (.iconst 0, 1) := by decide +kernel
theorem dX11_drinks_6 : decode cX11_drinks 6 = .ok (.goto 30, 3) := by decide +kernel
theorem dX11_drinks_9 : decode cX11_drinks 9 = .ok (.iload_n 2, 1) := by decide +kernel
theorem dX11_drinks_10 : decode cX11_drinks 10 = .ok (.iconst 2, 1) := by decide +kernel
theorem dX11_drinks_11 : decode cX11_drinks 11 = .ok (.if_icmp .ne 9, 3) := by decide +kernel
theorem dX11_drinks_14 : decode cX11_drinks 14 = .ok (.iload_n 1, 1) := by decide +kernel
theorem dX11_drinks_15 : decode cX11_drinks 15 = .ok (.iconst 2, 1) := by decide +kernel
theorem dX11_drinks_16 : decode cX11_drinks 16 = .ok (.idiv, 1) := by decide +kernel
theorem dX11_drinks_17 : decode cX11_drinks 17 = .ok (.goto 19, 3) := by decide +kernel
theorem dX11_drinks_20 : decode cX11_drinks 20 = .ok (.iload_n 2, 1) := by decide +kernel
theorem dX11_drinks_21 : decode cX11_drinks 21 = .ok (.iconst 1, 1) := by decide +kernel
theorem dX11_drinks_22 : decode cX11_drinks 22 = .ok (.if_icmp .ne 13, 3) := by decide +kernel
theorem dX11_drinks_25 : decode cX11_drinks 25 = .ok (.iload_n 1, 1) := by decide +kernel
theorem dX11_drinks_26 : decode cX11_drinks 26 = .ok (.ifCond .le 9, 3) := by decide +kernel
theorem dX11_drinks_29 : decode cX11_drinks 29 = .ok (.iload_n 1, 1) := by decide +kernel
theorem dX11_drinks_30 : decode cX11_drinks 30 = .ok (.iconst 1, 1) := by decide +kernel
theorem dX11_drinks_31 : decode cX11_drinks 31 = .ok (.isub, 1) := by decide +kernel
theorem dX11_drinks_32 : decode cX11_drinks 32 = .ok (.goto 4, 3) := by decide +kernel
theorem dX11_drinks_35 : decode cX11_drinks 35 = .ok (.iload_n 1, 1) := by decide +kernel
theorem dX11_drinks_36 : decode cX11_drinks 36 = .ok (.istore_n 3, 1) := by decide +kernel
theorem dX11_drinks_37 : decode cX11_drinks 37 = .ok (.iload_n 0, 1) := by decide +kernel
theorem dX11_drinks_38 : decode cX11_drinks 38 = .ok (.iload_n 3, 1) := by decide +kernel
theorem dX11_drinks_39 : decode cX11_drinks 39 = .ok (.if_icmp .ge 7, 3) := by decide +kernel
theorem dX11_drinks_42 : decode cX11_drinks 42 = .ok (.iload_n 0, 1) := by decide +kernel
theorem dX11_drinks_43 : decode cX11_drinks 43 = .ok (.goto 4, 3) := by decide +kernel
theorem dX11_drinks_46 : decode cX11_drinks 46 = .ok (.iload_n 3, 1) := by decide +kernel
theorem dX11_drinks_47 : decode cX11_drinks 47 = .ok (.ireturn, 1) := by decide +kernel
theorem dX11_drinkOn_0 : decode cX11_drinkOn 0 = .ok (.bipush 15, 2) := by decide +kernel
theorem dX11_drinkOn_2 : decode cX11_drinkOn 2 = .ok (.iload_n 1, 1) := by decide +kernel
theorem dX11_drinkOn_3 : decode cX11_drinkOn 3 = .ok (.imul, 1) := by decide +kernel
theorem dX11_drinkOn_4 : decode cX11_drinkOn 4 = .ok (.istore 4, 2) := by decide +kernel
theorem dX11_drinkOn_6 : decode cX11_drinkOn 6 = .ok (.aload_n 0, 1) := by decide +kernel
theorem dX11_drinkOn_7 : decode cX11_drinkOn 7 = .ok (.getfield 22, 3) := by decide +kernel
theorem dX11_drinkOn_10 : decode cX11_drinkOn 10 = .ok (.iload 4, 2) := by decide +kernel
theorem dX11_drinkOn_12 : decode cX11_drinkOn 12 = .ok (.bipush 10, 2) := by decide +kernel
theorem dX11_drinkOn_14 : decode cX11_drinkOn 14 = .ok (.iadd, 1) := by decide +kernel
theorem dX11_drinkOn_15 : decode cX11_drinkOn 15 = .ok (.iload_n 2, 1) := by decide +kernel
theorem dX11_drinkOn_16 : decode cX11_drinkOn 16 = .ok (.iadd, 1) := by decide +kernel
theorem dX11_drinkOn_17 : decode cX11_drinkOn 17 = .ok (.iaload, 1) := by decide +kernel
theorem dX11_drinkOn_18 : decode cX11_drinkOn 18 = .ok (.aload_n 0, 1) := by decide +kernel
theorem dX11_drinkOn_19 : decode cX11_drinkOn 19 = .ok (.getfield 22, 3) := by decide +kernel
theorem dX11_drinkOn_22 : decode cX11_drinkOn 22 = .ok (.iload 4, 2) := by decide +kernel
theorem dX11_drinkOn_24 : decode cX11_drinkOn 24 = .ok (.iload_n 3, 1) := by decide +kernel
theorem dX11_drinkOn_25 : decode cX11_drinkOn 25 = .ok (.iadd, 1) := by decide +kernel
theorem dX11_drinkOn_26 : decode cX11_drinkOn 26 = .ok (.iaload, 1) := by decide +kernel
theorem dX11_drinkOn_27 : decode cX11_drinkOn 27 = .ok (.aload_n 0, 1) := by decide +kernel
theorem dX11_drinkOn_28 : decode cX11_drinkOn 28 = .ok (.getfield 16, 3) := by decide +kernel
theorem dX11_drinkOn_31 : decode cX11_drinkOn 31 = .ok (.iload_n 2, 1) := by decide +kernel
theorem dX11_drinkOn_32 : decode cX11_drinkOn 32 = .ok (.iaload, 1) := by decide +kernel
theorem dX11_drinkOn_33 : decode cX11_drinkOn 33 = .ok (.invokestatic 111, 3) := by decide +kernel
theorem dX11_drinkOn_36 : decode cX11_drinkOn 36 = .ok (.istore 5, 2) := by decide +kernel
theorem dX11_drinkOn_38 : decode cX11_drinkOn 38 = .ok (.aload_n 0, 1) := by decide +kernel
theorem dX11_drinkOn_39 : decode cX11_drinkOn 39 = .ok (.getfield 22, 3) := by decide +kernel
theorem dX11_drinkOn_42 : decode cX11_drinkOn 42 = .ok (.iload 4, 2) := by decide +kernel
theorem dX11_drinkOn_44 : decode cX11_drinkOn 44 = .ok (.iload_n 3, 1) := by decide +kernel
theorem dX11_drinkOn_45 : decode cX11_drinkOn 45 = .ok (.iadd, 1) := by decide +kernel
theorem dX11_drinkOn_46 : decode cX11_drinkOn 46 = .ok (.dup2, 1) := by decide +kernel
theorem dX11_drinkOn_47 : decode cX11_drinkOn 47 = .ok (.iaload, 1) := by decide +kernel
theorem dX11_drinkOn_48 : decode cX11_drinkOn 48 = .ok (.iload 5, 2) := by decide +kernel
theorem dX11_drinkOn_50 : decode cX11_drinkOn 50 = .ok (.isub, 1) := by decide +kernel
theorem dX11_drinkOn_51 : decode cX11_drinkOn 51 = .ok (.iastore, 1) := by decide +kernel
theorem dX11_drinkOn_52 : decode cX11_drinkOn 52 = .ok (.aload_n 0, 1) := by decide +kernel
theorem dX11_drinkOn_53 : decode cX11_drinkOn 53 = .ok (.getfield 22, 3) := by decide +kernel
theorem dX11_drinkOn_56 : decode cX11_drinkOn 56 = .ok (.iload 4, 2) := by decide +kernel
theorem dX11_drinkOn_58 : decode cX11_drinkOn 58 = .ok (.bipush 10, 2) := by decide +kernel
theorem dX11_drinkOn_60 : decode cX11_drinkOn 60 = .ok (.iadd, 1) := by decide +kernel
theorem dX11_drinkOn_61 : decode cX11_drinkOn 61 = .ok (.iload_n 2, 1) := by decide +kernel
theorem dX11_drinkOn_62 : decode cX11_drinkOn 62 = .ok (.iadd, 1) := by decide +kernel
theorem dX11_drinkOn_63 : decode cX11_drinkOn 63 = .ok (.dup2, 1) := by decide +kernel
theorem dX11_drinkOn_64 : decode cX11_drinkOn 64 = .ok (.iaload, 1) := by decide +kernel
theorem dX11_drinkOn_65 : decode cX11_drinkOn 65 = .ok (.iload 5, 2) := by decide +kernel
theorem dX11_drinkOn_67 : decode cX11_drinkOn 67 = .ok (.isub, 1) := by decide +kernel
theorem dX11_drinkOn_68 : decode cX11_drinkOn 68 = .ok (.iastore, 1) := by decide +kernel
theorem dX11_drinkOn_69 : decode cX11_drinkOn 69 = .ok (.iload 5, 2) := by decide +kernel
theorem dX11_drinkOn_71 : decode cX11_drinkOn 71 = .ok (.ireturn, 1) := by decide +kernel
theorem dX11_sitOn_0 : decode cX11_sitOn 0 = .ok (.iconst 0, 1) := by decide +kernel
theorem dX11_sitOn_1 : decode cX11_sitOn 1 = .ok (.istore_n 3, 1) := by decide +kernel
theorem dX11_sitOn_2 : decode cX11_sitOn 2 = .ok (.iload_n 3, 1) := by decide +kernel
theorem dX11_sitOn_3 : decode cX11_sitOn 3 = .ok (.aload_n 0, 1) := by decide +kernel
theorem dX11_sitOn_4 : decode cX11_sitOn 4 = .ok (.getfield 56, 3) := by decide +kernel
theorem dX11_sitOn_7 : decode cX11_sitOn 7 = .ok (.if_icmp .ge 30, 3) := by decide +kernel
theorem dX11_sitOn_10 : decode cX11_sitOn 10 = .ok (.aload_n 0, 1) := by decide +kernel
theorem dX11_sitOn_11 : decode cX11_sitOn 11 = .ok (.getfield 19, 3) := by decide +kernel
theorem dX11_sitOn_14 : decode cX11_sitOn 14 = .ok (.iload_n 2, 1) := by decide +kernel
theorem dX11_sitOn_15 : decode cX11_sitOn 15 = .ok (.iaload, 1) := by decide +kernel
theorem dX11_sitOn_16 : decode cX11_sitOn 16 = .ok (.iload_n 3, 1) := by decide +kernel
theorem dX11_sitOn_17 : decode cX11_sitOn 17 = .ok (.invokestatic 77, 3) := by decide +kernel
theorem dX11_sitOn_20 : decode cX11_sitOn 20 = .ok (.ifCond .eq 11, 3) := by decide +kernel
theorem dX11_sitOn_23 : decode cX11_sitOn 23 = .ok (.aload_n 0, 1) := by decide +kernel
theorem dX11_sitOn_24 : decode cX11_sitOn 24 = .ok (.iload_n 1, 1) := by decide +kernel
theorem dX11_sitOn_25 : decode cX11_sitOn 25 = .ok (.iload_n 2, 1) := by decide +kernel
theorem dX11_sitOn_26 : decode cX11_sitOn 26 = .ok (.iload_n 3, 1) := by decide +kernel
theorem dX11_sitOn_27 : decode cX11_sitOn 27 = .ok (.invokevirtual 115, 3) := by decide +kernel
theorem dX11_sitOn_30 : decode cX11_sitOn 30 = .ok (.pop, 1) := by decide +kernel
theorem dX11_sitOn_31 : decode cX11_sitOn 31 = .ok (.iinc 3 1, 3) := by decide +kernel
theorem dX11_sitOn_34 : decode cX11_sitOn 34 = .ok (.goto (-32), 3) := by decide +kernel
theorem dX11_sitOn_37 : decode cX11_sitOn 37 = .ok (.return_, 1) := by decide +kernel
theorem dX11_eveningOn_0 : decode cX11_eveningOn 0 = .ok (.iconst 0, 1) := by decide +kernel
theorem dX11_eveningOn_1 : decode cX11_eveningOn 1 = .ok (.istore_n 3, 1) := by decide +kernel
theorem dX11_eveningOn_2 : decode cX11_eveningOn 2 = .ok (.iload_n 3, 1) := by decide +kernel
theorem dX11_eveningOn_3 : decode cX11_eveningOn 3 = .ok (.aload_n 0, 1) := by decide +kernel
theorem dX11_eveningOn_4 : decode cX11_eveningOn 4 = .ok (.getfield 105, 3) := by decide +kernel
theorem dX11_eveningOn_7 : decode cX11_eveningOn 7 = .ok (.if_icmp .ge 23, 3) := by decide +kernel
theorem dX11_eveningOn_10 : decode cX11_eveningOn 10 = .ok (.iload_n 2, 1) := by decide +kernel
theorem dX11_eveningOn_11 : decode cX11_eveningOn 11 = .ok (.iload_n 3, 1) := by decide +kernel
theorem dX11_eveningOn_12 : decode cX11_eveningOn 12 = .ok (.invokestatic 77, 3) := by decide +kernel
theorem dX11_eveningOn_15 : decode cX11_eveningOn 15 = .ok (.ifCond .eq 9, 3) := by decide +kernel
theorem dX11_eveningOn_18 : decode cX11_eveningOn 18 = .ok (.aload_n 0, 1) := by decide +kernel
theorem dX11_eveningOn_19 : decode cX11_eveningOn 19 = .ok (.iload_n 1, 1) := by decide +kernel
theorem dX11_eveningOn_20 : decode cX11_eveningOn 20 = .ok (.iload_n 3, 1) := by decide +kernel
theorem dX11_eveningOn_21 : decode cX11_eveningOn 21 = .ok (.invokevirtual 118, 3) := by decide +kernel
theorem dX11_eveningOn_24 : decode cX11_eveningOn 24 = .ok (.iinc 3 1, 3) := by decide +kernel
theorem dX11_eveningOn_27 : decode cX11_eveningOn 27 = .ok (.goto (-25), 3) := by decide +kernel
theorem dX11_eveningOn_30 : decode cX11_eveningOn 30 = .ok (.return_, 1) := by decide +kernel
theorem dX11_taxOn_0 : decode cX11_taxOn 0 = .ok (.aload_n 0, 1) := by decide +kernel
theorem dX11_taxOn_1 : decode cX11_taxOn 1 = .ok (.getfield 22, 3) := by decide +kernel
theorem dX11_taxOn_4 : decode cX11_taxOn 4 = .ok (.bipush 15, 2) := by decide +kernel
theorem dX11_taxOn_6 : decode cX11_taxOn 6 = .ok (.iload_n 1, 1) := by decide +kernel
theorem dX11_taxOn_7 : decode cX11_taxOn 7 = .ok (.imul, 1) := by decide +kernel
theorem dX11_taxOn_8 : decode cX11_taxOn 8 = .ok (.iload_n 2, 1) := by decide +kernel
theorem dX11_taxOn_9 : decode cX11_taxOn 9 = .ok (.iadd, 1) := by decide +kernel
theorem dX11_taxOn_10 : decode cX11_taxOn 10 = .ok (.iaload, 1) := by decide +kernel
theorem dX11_taxOn_11 : decode cX11_taxOn 11 = .ok (.istore_n 3, 1) := by decide +kernel
theorem dX11_taxOn_12 : decode cX11_taxOn 12 = .ok (.aload_n 0, 1) := by decide +kernel
theorem dX11_taxOn_13 : decode cX11_taxOn 13 = .ok (.getfield 22, 3) := by decide +kernel
theorem dX11_taxOn_16 : decode cX11_taxOn 16 = .ok (.bipush 15, 2) := by decide +kernel
theorem dX11_taxOn_18 : decode cX11_taxOn 18 = .ok (.iload_n 1, 1) := by decide +kernel
theorem dX11_taxOn_19 : decode cX11_taxOn 19 = .ok (.imul, 1) := by decide +kernel
theorem dX11_taxOn_20 : decode cX11_taxOn 20 = .ok (.iconst 5, 1) := by decide +kernel
theorem dX11_taxOn_21 : decode cX11_taxOn 21 = .ok (.iadd, 1) := by decide +kernel
theorem dX11_taxOn_22 : decode cX11_taxOn 22 = .ok (.iload_n 2, 1) := by decide +kernel
theorem dX11_taxOn_23 : decode cX11_taxOn 23 = .ok (.iadd, 1) := by decide +kernel
theorem dX11_taxOn_24 : decode cX11_taxOn 24 = .ok (.iaload, 1) := by decide +kernel
theorem dX11_taxOn_25 : decode cX11_taxOn 25 = .ok (.iconst 3, 1) := by decide +kernel
theorem dX11_taxOn_26 : decode cX11_taxOn 26 = .ok (.if_icmp .lt 7, 3) := by decide +kernel
theorem dX11_taxOn_29 : decode cX11_taxOn 29 = .ok (.iconst 0, 1) := by decide +kernel
theorem dX11_taxOn_30 : decode cX11_taxOn 30 = .ok (.goto 4, 3) := by decide +kernel
theorem dX11_taxOn_33 : decode cX11_taxOn 33 = .ok (.iload_n 3, 1) := by decide +kernel
theorem dX11_taxOn_34 : decode cX11_taxOn 34 = .ok (.istore 4, 2) := by decide +kernel
theorem dX11_taxOn_36 : decode cX11_taxOn 36 = .ok (.iload 4, 2) := by decide +kernel
theorem dX11_taxOn_38 : decode cX11_taxOn 38 = .ok (.aload_n 0, 1) := by decide +kernel
theorem dX11_taxOn_39 : decode cX11_taxOn 39 = .ok (.getfield 13, 3) := by decide +kernel
theorem dX11_taxOn_42 : decode cX11_taxOn 42 = .ok (.iload_n 2, 1) := by decide +kernel
theorem dX11_taxOn_43 : decode cX11_taxOn 43 = .ok (.iaload, 1) := by decide +kernel
theorem dX11_taxOn_44 : decode cX11_taxOn 44 = .ok (.iconst 3, 1) := by decide +kernel
theorem dX11_taxOn_45 : decode cX11_taxOn 45 = .ok (.if_icmp .ne 7, 3) := by decide +kernel
theorem dX11_taxOn_48 : decode cX11_taxOn 48 = .ok (.iconst 2, 1) := by decide +kernel
theorem dX11_taxOn_49 : decode cX11_taxOn 49 = .ok (.goto 4, 3) := by decide +kernel
theorem dX11_taxOn_52 : decode cX11_taxOn 52 = .ok (.iconst 0, 1) := by decide +kernel
theorem dX11_taxOn_53 : decode cX11_taxOn 53 = .ok (.isub, 1) := by decide +kernel
theorem dX11_taxOn_54 : decode cX11_taxOn 54 = .ok (.istore 4, 2) := by decide +kernel
theorem dX11_taxOn_56 : decode cX11_taxOn 56 = .ok (.iload 4, 2) := by decide +kernel
theorem dX11_taxOn_58 : decode cX11_taxOn 58 = .ok (.ifCond .gt 5, 3) := by decide +kernel
theorem dX11_taxOn_61 : decode cX11_taxOn 61 = .ok (.iconst 0, 1) := by decide +kernel
theorem dX11_taxOn_62 : decode cX11_taxOn 62 = .ok (.ireturn, 1) := by decide +kernel
theorem dX11_taxOn_63 : decode cX11_taxOn 63 = .ok (.iconst 2, 1) := by decide +kernel
theorem dX11_taxOn_64 : decode cX11_taxOn 64 = .ok (.iload_n 3, 1) := by decide +kernel
theorem dX11_taxOn_65 : decode cX11_taxOn 65 = .ok (.imul, 1) := by decide +kernel
theorem dX11_taxOn_66 : decode cX11_taxOn 66 = .ok (.aload_n 0, 1) := by decide +kernel
theorem dX11_taxOn_67 : decode cX11_taxOn 67 = .ok (.getfield 7, 3) := by decide +kernel
theorem dX11_taxOn_70 : decode cX11_taxOn 70 = .ok (.iload_n 2, 1) := by decide +kernel
theorem dX11_taxOn_71 : decode cX11_taxOn 71 = .ok (.iaload, 1) := by decide +kernel
theorem dX11_taxOn_72 : decode cX11_taxOn 72 = .ok (.if_icmp .lt 10, 3) := by decide +kernel
theorem dX11_taxOn_75 : decode cX11_taxOn 75 = .ok (.iload 4, 2) := by decide +kernel
theorem dX11_taxOn_77 : decode cX11_taxOn 77 = .ok (.iconst 2, 1) := by decide +kernel
theorem dX11_taxOn_78 : decode cX11_taxOn 78 = .ok (.iadd, 1) := by decide +kernel
theorem dX11_taxOn_79 : decode cX11_taxOn 79 = .ok (.goto 5, 3) := by decide +kernel
theorem dX11_taxOn_82 : decode cX11_taxOn 82 = .ok (.iload 4, 2) := by decide +kernel
theorem dX11_taxOn_84 : decode cX11_taxOn 84 = .ok (.ireturn, 1) := by decide +kernel
theorem dX11_taxes_0 : decode cX11_taxes 0 = .ok (.iconst 0, 1) := by decide +kernel
theorem dX11_taxes_1 : decode cX11_taxes 1 = .ok (.istore_n 2, 1) := by decide +kernel
theorem dX11_taxes_2 : decode cX11_taxes 2 = .ok (.iconst 0, 1) := by decide +kernel
theorem dX11_taxes_3 : decode cX11_taxes 3 = .ok (.istore_n 3, 1) := by decide +kernel
theorem dX11_taxes_4 : decode cX11_taxes 4 = .ok (.iload_n 3, 1) := by decide +kernel
theorem dX11_taxes_5 : decode cX11_taxes 5 = .ok (.aload_n 0, 1) := by decide +kernel
theorem dX11_taxes_6 : decode cX11_taxes 6 = .ok (.getfield 56, 3) := by decide +kernel
theorem dX11_taxes_9 : decode cX11_taxes 9 = .ok (.if_icmp .ge 18, 3) := by decide +kernel
theorem dX11_taxes_12 : decode cX11_taxes 12 = .ok (.iload_n 2, 1) := by decide +kernel
theorem dX11_taxes_13 : decode cX11_taxes 13 = .ok (.aload_n 0, 1) := by decide +kernel
theorem dX11_taxes_14 : decode cX11_taxes 14 = .ok (.iload_n 1, 1) := by decide +kernel
theorem dX11_taxes_15 : decode cX11_taxes 15 = .ok (.iload_n 3, 1) := by decide +kernel
theorem dX11_taxes_16 : decode cX11_taxes 16 = .ok (.invokevirtual 122, 3) := by decide +kernel
theorem dX11_taxes_19 : decode cX11_taxes 19 = .ok (.iadd, 1) := by decide +kernel
theorem dX11_taxes_20 : decode cX11_taxes 20 = .ok (.istore_n 2, 1) := by decide +kernel
theorem dX11_taxes_21 : decode cX11_taxes 21 = .ok (.iinc 3 1, 3) := by decide +kernel
theorem dX11_taxes_24 : decode cX11_taxes 24 = .ok (.goto (-20), 3) := by decide +kernel
theorem dX11_taxes_27 : decode cX11_taxes 27 = .ok (.iload_n 2, 1) := by decide +kernel
theorem dX11_taxes_28 : decode cX11_taxes 28 = .ok (.ireturn, 1) := by decide +kernel
theorem dX11_thirst_0 : decode cX11_thirst 0 = .ok (.iconst 0, 1) := by decide +kernel
theorem dX11_thirst_1 : decode cX11_thirst 1 = .ok (.istore_n 3, 1) := by decide +kernel
theorem dX11_thirst_2 : decode cX11_thirst 2 = .ok (.iconst 0, 1) := by decide +kernel
theorem dX11_thirst_3 : decode cX11_thirst 3 = .ok (.istore 4, 2) := by decide +kernel
theorem dX11_thirst_5 : decode cX11_thirst 5 = .ok (.iload 4, 2) := by decide +kernel
theorem dX11_thirst_7 : decode cX11_thirst 7 = .ok (.aload_n 0, 1) := by decide +kernel
theorem dX11_thirst_8 : decode cX11_thirst 8 = .ok (.getfield 105, 3) := by decide +kernel
theorem dX11_thirst_11 : decode cX11_thirst 11 = .ok (.if_icmp .ge 46, 3) := by decide +kernel
theorem dX11_thirst_14 : decode cX11_thirst 14 = .ok (.iload_n 3, 1) := by decide +kernel
theorem dX11_thirst_15 : decode cX11_thirst 15 = .ok (.iload_n 2, 1) := by decide +kernel
theorem dX11_thirst_16 : decode cX11_thirst 16 = .ok (.ifCond .ne 14, 3) := by decide +kernel
theorem dX11_thirst_19 : decode cX11_thirst 19 = .ok (.aload_n 0, 1) := by decide +kernel
theorem dX11_thirst_20 : decode cX11_thirst 20 = .ok (.getfield 16, 3) := by decide +kernel
theorem dX11_thirst_23 : decode cX11_thirst 23 = .ok (.iload 4, 2) := by decide +kernel
theorem dX11_thirst_25 : decode cX11_thirst 25 = .ok (.iaload, 1) := by decide +kernel
theorem dX11_thirst_26 : decode cX11_thirst 26 = .ok (.iconst 3, 1) := by decide +kernel
theorem dX11_thirst_27 : decode cX11_thirst 27 = .ok (.if_icmp .eq 21, 3) := by decide +kernel
theorem dX11_thirst_30 : decode cX11_thirst 30 = .ok (.aload_n 0, 1) := by decide +kernel
theorem dX11_thirst_31 : decode cX11_thirst 31 = .ok (.getfield 22, 3) := by decide +kernel
theorem dX11_thirst_34 : decode cX11_thirst 34 = .ok (.bipush 15, 2) := by decide +kernel
theorem dX11_thirst_36 : decode cX11_thirst 36 = .ok (.iload_n 1, 1) := by decide +kernel
theorem dX11_thirst_37 : decode cX11_thirst 37 = .ok (.imul, 1) := by decide +kernel
theorem dX11_thirst_38 : decode cX11_thirst 38 = .ok (.bipush 10, 2) := by decide +kernel
theorem dX11_thirst_40 : decode cX11_thirst 40 = .ok (.iadd, 1) := by decide +kernel
theorem dX11_thirst_41 : decode cX11_thirst 41 = .ok (.iload 4, 2) := by decide +kernel
theorem dX11_thirst_43 : decode cX11_thirst 43 = .ok (.iadd, 1) := by decide +kernel
theorem dX11_thirst_44 : decode cX11_thirst 44 = .ok (.iaload, 1) := by decide +kernel
theorem dX11_thirst_45 : decode cX11_thirst 45 = .ok (.goto 4, 3) := by decide +kernel
theorem dX11_thirst_48 : decode cX11_thirst 48 = .ok (.iconst 0, 1) := by decide +kernel
theorem dX11_thirst_49 : decode cX11_thirst 49 = .ok (.iadd, 1) := by decide +kernel
theorem dX11_thirst_50 : decode cX11_thirst 50 = .ok (.istore_n 3, 1) := by decide +kernel
theorem dX11_thirst_51 : decode cX11_thirst 51 = .ok (.iinc 4 1, 3) := by decide +kernel
theorem dX11_thirst_54 : decode cX11_thirst 54 = .ok (.goto (-49), 3) := by decide +kernel
theorem dX11_thirst_57 : decode cX11_thirst 57 = .ok (.iload_n 3, 1) := by decide +kernel
theorem dX11_thirst_58 : decode cX11_thirst 58 = .ok (.ireturn, 1) := by decide +kernel
theorem dX11_passOn_0 : decode cX11_passOn 0 = .ok (.bipush 15, 2) := by decide +kernel
theorem dX11_passOn_2 : decode cX11_passOn 2 = .ok (.iload_n 1, 1) := by decide +kernel
theorem dX11_passOn_3 : decode cX11_passOn 3 = .ok (.imul, 1) := by decide +kernel
theorem dX11_passOn_4 : decode cX11_passOn 4 = .ok (.istore_n 2, 1) := by decide +kernel
theorem dX11_passOn_5 : decode cX11_passOn 5 = .ok (.iconst 0, 1) := by decide +kernel
theorem dX11_passOn_6 : decode cX11_passOn 6 = .ok (.istore_n 3, 1) := by decide +kernel
theorem dX11_passOn_7 : decode cX11_passOn 7 = .ok (.iload_n 3, 1) := by decide +kernel
theorem dX11_passOn_8 : decode cX11_passOn 8 = .ok (.aload_n 0, 1) := by decide +kernel
theorem dX11_passOn_9 : decode cX11_passOn 9 = .ok (.getfield 56, 3) := by decide +kernel
theorem dX11_passOn_12 : decode cX11_passOn 12 = .ok (.if_icmp .ge 128, 3) := by decide +kernel
theorem dX11_passOn_15 : decode cX11_passOn 15 = .ok (.aload_n 0, 1) := by decide +kernel
theorem dX11_passOn_16 : decode cX11_passOn 16 = .ok (.getfield 22, 3) := by decide +kernel
theorem dX11_passOn_19 : decode cX11_passOn 19 = .ok (.iload_n 2, 1) := by decide +kernel
theorem dX11_passOn_20 : decode cX11_passOn 20 = .ok (.iload_n 3, 1) := by decide +kernel
theorem dX11_passOn_21 : decode cX11_passOn 21 = .ok (.iadd, 1) := by decide +kernel
theorem dX11_passOn_22 : decode cX11_passOn 22 = .ok (.iaload, 1) := by decide +kernel
theorem dX11_passOn_23 : decode cX11_passOn 23 = .ok (.ifCond .le 111, 3) := by decide +kernel
theorem dX11_passOn_26 : decode cX11_passOn 26 = .ok (.aload_n 0, 1) := by decide +kernel
theorem dX11_passOn_27 : decode cX11_passOn 27 = .ok (.getfield 22, 3) := by decide +kernel
theorem dX11_passOn_30 : decode cX11_passOn 30 = .ok (.iload_n 2, 1) := by decide +kernel
theorem dX11_passOn_31 : decode cX11_passOn 31 = .ok (.iconst 5, 1) := by decide +kernel
theorem dX11_passOn_32 : decode cX11_passOn 32 = .ok (.iadd, 1) := by decide +kernel
theorem dX11_passOn_33 : decode cX11_passOn 33 = .ok (.iload_n 3, 1) := by decide +kernel
theorem dX11_passOn_34 : decode cX11_passOn 34 = .ok (.iadd, 1) := by decide +kernel
theorem dX11_passOn_35 : decode cX11_passOn 35 = .ok (.dup2, 1) := by decide +kernel
theorem dX11_passOn_36 : decode cX11_passOn 36 = .ok (.iaload, 1) := by decide +kernel
theorem dX11_passOn_37 : decode cX11_passOn 37 = .ok (.aload_n 0, 1) := by decide +kernel
theorem dX11_passOn_38 : decode cX11_passOn 38 = .ok (.getfield 22, 3) := by decide +kernel
theorem dX11_passOn_41 : decode cX11_passOn 41 = .ok (.iload_n 2, 1) := by decide +kernel
theorem dX11_passOn_42 : decode cX11_passOn 42 = .ok (.iconst 5, 1) := by decide +kernel
theorem dX11_passOn_43 : decode cX11_passOn 43 = .ok (.iadd, 1) := by decide +kernel
theorem dX11_passOn_44 : decode cX11_passOn 44 = .ok (.iload_n 3, 1) := by decide +kernel
theorem dX11_passOn_45 : decode cX11_passOn 45 = .ok (.iadd, 1) := by decide +kernel
theorem dX11_passOn_46 : decode cX11_passOn 46 = .ok (.iaload, 1) := by decide +kernel
theorem dX11_passOn_47 : decode cX11_passOn 47 = .ok (.bipush 9, 2) := by decide +kernel
theorem dX11_passOn_49 : decode cX11_passOn 49 = .ok (.if_icmp .ge 7, 3) := by decide +kernel
theorem dX11_passOn_52 : decode cX11_passOn 52 = .ok (.iconst 1, 1) := by decide +kernel
theorem dX11_passOn_53 : decode cX11_passOn 53 = .ok (.goto 4, 3) := by decide +kernel
theorem dX11_passOn_56 : decode cX11_passOn 56 = .ok (.iconst 0, 1) := by decide +kernel
theorem dX11_passOn_57 : decode cX11_passOn 57 = .ok (.iadd, 1) := by decide +kernel
theorem dX11_passOn_58 : decode cX11_passOn 58 = .ok (.iastore, 1) := by decide +kernel
theorem dX11_passOn_59 : decode cX11_passOn 59 = .ok (.aload_n 0, 1) := by decide +kernel
theorem dX11_passOn_60 : decode cX11_passOn 60 = .ok (.getfield 22, 3) := by decide +kernel
theorem dX11_passOn_63 : decode cX11_passOn 63 = .ok (.iload_n 2, 1) := by decide +kernel
theorem dX11_passOn_64 : decode cX11_passOn 64 = .ok (.iload_n 3, 1) := by decide +kernel
theorem dX11_passOn_65 : decode cX11_passOn 65 = .ok (.iadd, 1) := by decide +kernel
theorem dX11_passOn_66 : decode cX11_passOn 66 = .ok (.dup2, 1) := by decide +kernel
theorem dX11_passOn_67 : decode cX11_passOn 67 = .ok (.iaload, 1) := by decide +kernel
theorem dX11_passOn_68 : decode cX11_passOn 68 = .ok (.aload_n 0, 1) := by decide +kernel
theorem dX11_passOn_69 : decode cX11_passOn 69 = .ok (.getfield 13, 3) := by decide +kernel
theorem dX11_passOn_72 : decode cX11_passOn 72 = .ok (.iload_n 3, 1) := by decide +kernel
theorem dX11_passOn_73 : decode cX11_passOn 73 = .ok (.iaload, 1) := by decide +kernel
theorem dX11_passOn_74 : decode cX11_passOn 74 = .ok (.iconst 1, 1) := by decide +kernel
theorem dX11_passOn_75 : decode cX11_passOn 75 = .ok (.if_icmp .ne 7, 3) := by decide +kernel
theorem dX11_passOn_78 : decode cX11_passOn 78 = .ok (.iconst 1, 1) := by decide +kernel
theorem dX11_passOn_79 : decode cX11_passOn 79 = .ok (.goto 4, 3) := by decide +kernel
theorem dX11_passOn_82 : decode cX11_passOn 82 = .ok (.iconst 0, 1) := by decide +kernel
theorem dX11_passOn_83 : decode cX11_passOn 83 = .ok (.isub, 1) := by decide +kernel
theorem dX11_passOn_84 : decode cX11_passOn 84 = .ok (.iastore, 1) := by decide +kernel
theorem dX11_passOn_85 : decode cX11_passOn 85 = .ok (.aload_n 0, 1) := by decide +kernel
theorem dX11_passOn_86 : decode cX11_passOn 86 = .ok (.getfield 22, 3) := by decide +kernel
theorem dX11_passOn_89 : decode cX11_passOn 89 = .ok (.iload_n 2, 1) := by decide +kernel
theorem dX11_passOn_90 : decode cX11_passOn 90 = .ok (.iload_n 3, 1) := by decide +kernel
theorem dX11_passOn_91 : decode cX11_passOn 91 = .ok (.iadd, 1) := by decide +kernel
theorem dX11_passOn_92 : decode cX11_passOn 92 = .ok (.dup2, 1) := by decide +kernel
theorem dX11_passOn_93 : decode cX11_passOn 93 = .ok (.iaload, 1) := by decide +kernel
theorem dX11_passOn_94 : decode cX11_passOn 94 = .ok (.aload_n 0, 1) := by decide +kernel
theorem dX11_passOn_95 : decode cX11_passOn 95 = .ok (.getfield 13, 3) := by decide +kernel
theorem dX11_passOn_98 : decode cX11_passOn 98 = .ok (.iload_n 3, 1) := by decide +kernel
theorem dX11_passOn_99 : decode cX11_passOn 99 = .ok (.iaload, 1) := by decide +kernel
theorem dX11_passOn_100 : decode cX11_passOn 100 = .ok (.iconst 2, 1) := by decide +kernel
theorem dX11_passOn_101 : decode cX11_passOn 101 = .ok (.if_icmp .ne 30, 3) := by decide +kernel
theorem dX11_passOn_104 : decode cX11_passOn 104 = .ok (.aload_n 0, 1) := by decide +kernel
theorem dX11_passOn_105 : decode cX11_passOn 105 = .ok (.getfield 22, 3) := by decide +kernel
theorem dX11_passOn_108 : decode cX11_passOn 108 = .ok (.iload_n 2, 1) := by decide +kernel
theorem dX11_passOn_109 : decode cX11_passOn 109 = .ok (.iconst 5, 1) := by decide +kernel
theorem dX11_passOn_110 : decode cX11_passOn 110 = .ok (.iadd, 1) := by decide +kernel
theorem dX11_passOn_111 : decode cX11_passOn 111 = .ok (.iload_n 3, 1) := by decide +kernel
theorem dX11_passOn_112 : decode cX11_passOn 112 = .ok (.iadd, 1) := by decide +kernel
theorem dX11_passOn_113 : decode cX11_passOn 113 = .ok (.iaload, 1) := by decide +kernel
theorem dX11_passOn_114 : decode cX11_passOn 114 = .ok (.iconst 1, 1) := by decide +kernel
theorem dX11_passOn_115 : decode cX11_passOn 115 = .ok (.if_icmp .ne 16, 3) := by decide +kernel
theorem dX11_passOn_118 : decode cX11_passOn 118 = .ok (.aload_n 0, 1) := by decide +kernel
theorem dX11_passOn_119 : decode cX11_passOn 119 = .ok (.getfield 22, 3) := by decide +kernel
theorem dX11_passOn_122 : decode cX11_passOn 122 = .ok (.iload_n 2, 1) := by decide +kernel
theorem dX11_passOn_123 : decode cX11_passOn 123 = .ok (.iload_n 3, 1) := by decide +kernel
theorem dX11_passOn_124 : decode cX11_passOn 124 = .ok (.iadd, 1) := by decide +kernel
theorem dX11_passOn_125 : decode cX11_passOn 125 = .ok (.iaload, 1) := by decide +kernel
theorem dX11_passOn_126 : decode cX11_passOn 126 = .ok (.iconst 4, 1) := by decide +kernel
theorem dX11_passOn_127 : decode cX11_passOn 127 = .ok (.idiv, 1) := by decide +kernel
theorem dX11_passOn_128 : decode cX11_passOn 128 = .ok (.goto 4, 3) := by decide +kernel
theorem dX11_passOn_131 : decode cX11_passOn 131 = .ok (.iconst 0, 1) := by decide +kernel
theorem dX11_passOn_132 : decode cX11_passOn 132 = .ok (.isub, 1) := by decide +kernel
theorem dX11_passOn_133 : decode cX11_passOn 133 = .ok (.iastore, 1) := by decide +kernel
theorem dX11_passOn_134 : decode cX11_passOn 134 = .ok (.iinc 3 1, 3) := by decide +kernel
theorem dX11_passOn_137 : decode cX11_passOn 137 = .ok (.goto (-130), 3) := by decide +kernel
theorem dX11_passOn_140 : decode cX11_passOn 140 = .ok (.aload_n 0, 1) := by decide +kernel
theorem dX11_passOn_141 : decode cX11_passOn 141 = .ok (.getfield 22, 3) := by decide +kernel
theorem dX11_passOn_144 : decode cX11_passOn 144 = .ok (.iload_n 2, 1) := by decide +kernel
theorem dX11_passOn_145 : decode cX11_passOn 145 = .ok (.bipush 14, 2) := by decide +kernel
theorem dX11_passOn_147 : decode cX11_passOn 147 = .ok (.iadd, 1) := by decide +kernel
theorem dX11_passOn_148 : decode cX11_passOn 148 = .ok (.dup2, 1) := by decide +kernel
theorem dX11_passOn_149 : decode cX11_passOn 149 = .ok (.iaload, 1) := by decide +kernel
theorem dX11_passOn_150 : decode cX11_passOn 150 = .ok (.iconst 1, 1) := by decide +kernel
theorem dX11_passOn_151 : decode cX11_passOn 151 = .ok (.iadd, 1) := by decide +kernel
theorem dX11_passOn_152 : decode cX11_passOn 152 = .ok (.iastore, 1) := by decide +kernel
theorem dX11_passOn_153 : decode cX11_passOn 153 = .ok (.return_, 1) := by decide +kernel
theorem dX11_sittersAt_0 : decode cX11_sittersAt 0 = .ok (.iconst 0, 1) := by decide +kernel
theorem dX11_sittersAt_1 : decode cX11_sittersAt 1 = .ok (.istore_n 2, 1) := by decide +kernel
theorem dX11_sittersAt_2 : decode cX11_sittersAt 2 = .ok (.iconst 0, 1) := by decide +kernel
theorem dX11_sittersAt_3 : decode cX11_sittersAt 3 = .ok (.istore_n 3, 1) := by decide +kernel
theorem dX11_sittersAt_4 : decode cX11_sittersAt 4 = .ok (.iload_n 3, 1) := by decide +kernel
theorem dX11_sittersAt_5 : decode cX11_sittersAt 5 = .ok (.aload_n 0, 1) := by decide +kernel
theorem dX11_sittersAt_6 : decode cX11_sittersAt 6 = .ok (.getfield 105, 3) := by decide +kernel
theorem dX11_sittersAt_9 : decode cX11_sittersAt 9 = .ok (.if_icmp .ge 32, 3) := by decide +kernel
theorem dX11_sittersAt_12 : decode cX11_sittersAt 12 = .ok (.iload_n 2, 1) := by decide +kernel
theorem dX11_sittersAt_13 : decode cX11_sittersAt 13 = .ok (.aload_n 0, 1) := by decide +kernel
theorem dX11_sittersAt_14 : decode cX11_sittersAt 14 = .ok (.getfield 19, 3) := by decide +kernel
theorem dX11_sittersAt_17 : decode cX11_sittersAt 17 = .ok (.iload_n 3, 1) := by decide +kernel
theorem dX11_sittersAt_18 : decode cX11_sittersAt 18 = .ok (.iaload, 1) := by decide +kernel
theorem dX11_sittersAt_19 : decode cX11_sittersAt 19 = .ok (.iload_n 1, 1) := by decide +kernel
theorem dX11_sittersAt_20 : decode cX11_sittersAt 20 = .ok (.invokestatic 77, 3) := by decide +kernel
theorem dX11_sittersAt_23 : decode cX11_sittersAt 23 = .ok (.ifCond .eq 9, 3) := by decide +kernel
theorem dX11_sittersAt_26 : decode cX11_sittersAt 26 = .ok (.iconst 1, 1) := by decide +kernel
theorem dX11_sittersAt_27 : decode cX11_sittersAt 27 = .ok (.iload_n 3, 1) := by decide +kernel
theorem dX11_sittersAt_28 : decode cX11_sittersAt 28 = .ok (.ishl, 1) := by decide +kernel
theorem dX11_sittersAt_29 : decode cX11_sittersAt 29 = .ok (.goto 4, 3) := by decide +kernel
theorem dX11_sittersAt_32 : decode cX11_sittersAt 32 = .ok (.iconst 0, 1) := by decide +kernel
theorem dX11_sittersAt_33 : decode cX11_sittersAt 33 = .ok (.ior, 1) := by decide +kernel
theorem dX11_sittersAt_34 : decode cX11_sittersAt 34 = .ok (.istore_n 2, 1) := by decide +kernel
theorem dX11_sittersAt_35 : decode cX11_sittersAt 35 = .ok (.iinc 3 1, 3) := by decide +kernel
theorem dX11_sittersAt_38 : decode cX11_sittersAt 38 = .ok (.goto (-34), 3) := by decide +kernel
theorem dX11_sittersAt_41 : decode cX11_sittersAt 41 = .ok (.iload_n 2, 1) := by decide +kernel
theorem dX11_sittersAt_42 : decode cX11_sittersAt 42 = .ok (.ireturn, 1) := by decide +kernel
theorem dX11_glass_0 : decode cX11_glass 0 = .ok (.aload_n 0, 1) := by decide +kernel
theorem dX11_glass_1 : decode cX11_glass 1 = .ok (.iload_n 1, 1) := by decide +kernel
theorem dX11_glass_2 : decode cX11_glass 2 = .ok (.invokevirtual 126, 3) := by decide +kernel
theorem dX11_glass_5 : decode cX11_glass 5 = .ok (.ifCond .ne 5, 3) := by decide +kernel
theorem dX11_glass_8 : decode cX11_glass 8 = .ok (.iconst (-1), 1) := by decide +kernel
theorem dX11_glass_9 : decode cX11_glass 9 = .ok (.ireturn, 1) := by decide +kernel
theorem dX11_glass_10 : decode cX11_glass 10 = .ok (.iload_n 2, 1) := by decide +kernel
theorem dX11_glass_11 : decode cX11_glass 11 = .ok (.tableswitch 80 0 5 #[37, 44, 51, 58, 67, 74], 37) := by decide +kernel
theorem dX11_glass_48 : decode cX11_glass 48 = .ok (.aload_n 0, 1) := by decide +kernel
theorem dX11_glass_49 : decode cX11_glass 49 = .ok (.getfield 7, 3) := by decide +kernel
theorem dX11_glass_52 : decode cX11_glass 52 = .ok (.iload_n 1, 1) := by decide +kernel
theorem dX11_glass_53 : decode cX11_glass 53 = .ok (.iaload, 1) := by decide +kernel
theorem dX11_glass_54 : decode cX11_glass 54 = .ok (.ireturn, 1) := by decide +kernel
theorem dX11_glass_55 : decode cX11_glass 55 = .ok (.aload_n 0, 1) := by decide +kernel
theorem dX11_glass_56 : decode cX11_glass 56 = .ok (.getfield 22, 3) := by decide +kernel
theorem dX11_glass_59 : decode cX11_glass 59 = .ok (.iload_n 1, 1) := by decide +kernel
theorem dX11_glass_60 : decode cX11_glass 60 = .ok (.iaload, 1) := by decide +kernel
theorem dX11_glass_61 : decode cX11_glass 61 = .ok (.ireturn, 1) := by decide +kernel
theorem dX11_glass_62 : decode cX11_glass 62 = .ok (.aload_n 0, 1) := by decide +kernel
theorem dX11_glass_63 : decode cX11_glass 63 = .ok (.getfield 13, 3) := by decide +kernel
theorem dX11_glass_66 : decode cX11_glass 66 = .ok (.iload_n 1, 1) := by decide +kernel
theorem dX11_glass_67 : decode cX11_glass 67 = .ok (.iaload, 1) := by decide +kernel
theorem dX11_glass_68 : decode cX11_glass 68 = .ok (.ireturn, 1) := by decide +kernel
theorem dX11_glass_69 : decode cX11_glass 69 = .ok (.aload_n 0, 1) := by decide +kernel
theorem dX11_glass_70 : decode cX11_glass 70 = .ok (.getfield 22, 3) := by decide +kernel
theorem dX11_glass_73 : decode cX11_glass 73 = .ok (.iconst 5, 1) := by decide +kernel
theorem dX11_glass_74 : decode cX11_glass 74 = .ok (.iload_n 1, 1) := by decide +kernel
theorem dX11_glass_75 : decode cX11_glass 75 = .ok (.iadd, 1) := by decide +kernel
theorem dX11_glass_76 : decode cX11_glass 76 = .ok (.iaload, 1) := by decide +kernel
theorem dX11_glass_77 : decode cX11_glass 77 = .ok (.ireturn, 1) := by decide +kernel
theorem dX11_glass_78 : decode cX11_glass 78 = .ok (.aload_n 0, 1) := by decide +kernel
theorem dX11_glass_79 : decode cX11_glass 79 = .ok (.iconst 0, 1) := by decide +kernel
theorem dX11_glass_80 : decode cX11_glass 80 = .ok (.iload_n 1, 1) := by decide +kernel
theorem dX11_glass_81 : decode cX11_glass 81 = .ok (.invokevirtual 122, 3) := by decide +kernel
theorem dX11_glass_84 : decode cX11_glass 84 = .ok (.ireturn, 1) := by decide +kernel
theorem dX11_glass_85 : decode cX11_glass 85 = .ok (.aload_n 0, 1) := by decide +kernel
theorem dX11_glass_86 : decode cX11_glass 86 = .ok (.iload_n 1, 1) := by decide +kernel
theorem dX11_glass_87 : decode cX11_glass 87 = .ok (.invokevirtual 130, 3) := by decide +kernel
theorem dX11_glass_90 : decode cX11_glass 90 = .ok (.ireturn, 1) := by decide +kernel
theorem dX11_glass_91 : decode cX11_glass 91 = .ok (.bipush (-2), 2) := by decide +kernel
theorem dX11_glass_93 : decode cX11_glass 93 = .ok (.ireturn, 1) := by decide +kernel
theorem dX11_firstOf_0 : decode cX11_firstOf 0 = .ok (.iconst 0, 1) := by decide +kernel
theorem dX11_firstOf_1 : decode cX11_firstOf 1 = .ok (.istore_n 1, 1) := by decide +kernel
theorem dX11_firstOf_2 : decode cX11_firstOf 2 = .ok (.iload_n 1, 1) := by decide +kernel
theorem dX11_firstOf_3 : decode cX11_firstOf 3 = .ok (.iconst 5, 1) := by decide +kernel
theorem dX11_firstOf_4 : decode cX11_firstOf 4 = .ok (.if_icmp .ge 19, 3) := by decide +kernel
theorem dX11_firstOf_7 : decode cX11_firstOf 7 = .ok (.iload_n 0, 1) := by decide +kernel
theorem dX11_firstOf_8 : decode cX11_firstOf 8 = .ok (.iload_n 1, 1) := by decide +kernel
theorem dX11_firstOf_9 : decode cX11_firstOf 9 = .ok (.invokestatic 77, 3) := by decide +kernel
theorem dX11_firstOf_12 : decode cX11_firstOf 12 = .ok (.ifCond .eq 5, 3) := by decide +kernel
theorem dX11_firstOf_15 : decode cX11_firstOf 15 = .ok (.iload_n 1, 1) := by decide +kernel
theorem dX11_firstOf_16 : decode cX11_firstOf 16 = .ok (.ireturn, 1) := by decide +kernel
theorem dX11_firstOf_17 : decode cX11_firstOf 17 = .ok (.iinc 1 1, 3) := by decide +kernel
theorem dX11_firstOf_20 : decode cX11_firstOf 20 = .ok (.goto (-18), 3) := by decide +kernel
theorem dX11_firstOf_23 : decode cX11_firstOf 23 = .ok (.bipush (-9), 2) := by decide +kernel
theorem dX11_firstOf_25 : decode cX11_firstOf 25 = .ok (.ireturn, 1) := by decide +kernel
theorem dX11_drinker_0 : decode cX11_drinker 0 = .ok (.aload_n 0, 1) := by decide +kernel
theorem dX11_drinker_1 : decode cX11_drinker 1 = .ok (.iload_n 1, 1) := by decide +kernel
theorem dX11_drinker_2 : decode cX11_drinker 2 = .ok (.invokevirtual 133, 3) := by decide +kernel
theorem dX11_drinker_5 : decode cX11_drinker 5 = .ok (.ifCond .ne 5, 3) := by decide +kernel
theorem dX11_drinker_8 : decode cX11_drinker 8 = .ok (.iconst (-1), 1) := by decide +kernel
theorem dX11_drinker_9 : decode cX11_drinker 9 = .ok (.ireturn, 1) := by decide +kernel
theorem dX11_drinker_10 : decode cX11_drinker 10 = .ok (.iload_n 2, 1) := by decide +kernel
theorem dX11_drinker_11 : decode cX11_drinker 11 = .ok (.tableswitch 99 0 3 #[29, 39, 46, 53], 29) := by decide +kernel
theorem dX11_drinker_40 : decode cX11_drinker 40 = .ok (.aload_n 0, 1) := by decide +kernel
theorem dX11_drinker_41 : decode cX11_drinker 41 = .ok (.getfield 22, 3) := by decide +kernel
theorem dX11_drinker_44 : decode cX11_drinker 44 = .ok (.bipush 10, 2) := by decide +kernel
theorem dX11_drinker_46 : decode cX11_drinker 46 = .ok (.iload_n 1, 1) := by decide +kernel
theorem dX11_drinker_47 : decode cX11_drinker 47 = .ok (.iadd, 1) := by decide +kernel
theorem dX11_drinker_48 : decode cX11_drinker 48 = .ok (.iaload, 1) := by decide +kernel
theorem dX11_drinker_49 : decode cX11_drinker 49 = .ok (.ireturn, 1) := by decide +kernel
theorem dX11_drinker_50 : decode cX11_drinker 50 = .ok (.aload_n 0, 1) := by decide +kernel
theorem dX11_drinker_51 : decode cX11_drinker 51 = .ok (.getfield 16, 3) := by decide +kernel
theorem dX11_drinker_54 : decode cX11_drinker 54 = .ok (.iload_n 1, 1) := by decide +kernel
theorem dX11_drinker_55 : decode cX11_drinker 55 = .ok (.iaload, 1) := by decide +kernel
theorem dX11_drinker_56 : decode cX11_drinker 56 = .ok (.ireturn, 1) := by decide +kernel
theorem dX11_drinker_57 : decode cX11_drinker 57 = .ok (.aload_n 0, 1) := by decide +kernel
theorem dX11_drinker_58 : decode cX11_drinker 58 = .ok (.getfield 19, 3) := by decide +kernel
theorem dX11_drinker_61 : decode cX11_drinker 61 = .ok (.iload_n 1, 1) := by decide +kernel
theorem dX11_drinker_62 : decode cX11_drinker 62 = .ok (.iaload, 1) := by decide +kernel
theorem dX11_drinker_63 : decode cX11_drinker 63 = .ok (.ireturn, 1) := by decide +kernel
theorem dX11_drinker_64 : decode cX11_drinker 64 = .ok (.aload_n 0, 1) := by decide +kernel
theorem dX11_drinker_65 : decode cX11_drinker 65 = .ok (.getfield 19, 3) := by decide +kernel
theorem dX11_drinker_68 : decode cX11_drinker 68 = .ok (.iload_n 1, 1) := by decide +kernel
theorem dX11_drinker_69 : decode cX11_drinker 69 = .ok (.iaload, 1) := by decide +kernel
theorem dX11_drinker_70 : decode cX11_drinker 70 = .ok (.ifCond .ne 7, 3) := by decide +kernel
theorem dX11_drinker_73 : decode cX11_drinker 73 = .ok (.iconst 0, 1) := by decide +kernel
theorem dX11_drinker_74 : decode cX11_drinker 74 = .ok (.goto 35, 3) := by decide +kernel
theorem dX11_drinker_77 : decode cX11_drinker 77 = .ok (.aload_n 0, 1) := by decide +kernel
theorem dX11_drinker_78 : decode cX11_drinker 78 = .ok (.getfield 22, 3) := by decide +kernel
theorem dX11_drinker_81 : decode cX11_drinker 81 = .ok (.bipush 10, 2) := by decide +kernel
theorem dX11_drinker_83 : decode cX11_drinker 83 = .ok (.iload_n 1, 1) := by decide +kernel
theorem dX11_drinker_84 : decode cX11_drinker 84 = .ok (.iadd, 1) := by decide +kernel
theorem dX11_drinker_85 : decode cX11_drinker 85 = .ok (.iaload, 1) := by decide +kernel
theorem dX11_drinker_86 : decode cX11_drinker 86 = .ok (.aload_n 0, 1) := by decide +kernel
theorem dX11_drinker_87 : decode cX11_drinker 87 = .ok (.getfield 22, 3) := by decide +kernel
theorem dX11_drinker_90 : decode cX11_drinker 90 = .ok (.aload_n 0, 1) := by decide +kernel
theorem dX11_drinker_91 : decode cX11_drinker 91 = .ok (.getfield 19, 3) := by decide +kernel
theorem dX11_drinker_94 : decode cX11_drinker 94 = .ok (.iload_n 1, 1) := by decide +kernel
theorem dX11_drinker_95 : decode cX11_drinker 95 = .ok (.iaload, 1) := by decide +kernel
theorem dX11_drinker_96 : decode cX11_drinker 96 = .ok (.invokestatic 136, 3) := by decide +kernel
theorem dX11_drinker_99 : decode cX11_drinker 99 = .ok (.iaload, 1) := by decide +kernel
theorem dX11_drinker_100 : decode cX11_drinker 100 = .ok (.aload_n 0, 1) := by decide +kernel
theorem dX11_drinker_101 : decode cX11_drinker 101 = .ok (.getfield 16, 3) := by decide +kernel
theorem dX11_drinker_104 : decode cX11_drinker 104 = .ok (.iload_n 1, 1) := by decide +kernel
theorem dX11_drinker_105 : decode cX11_drinker 105 = .ok (.iaload, 1) := by decide +kernel
theorem dX11_drinker_106 : decode cX11_drinker 106 = .ok (.invokestatic 111, 3) := by decide +kernel
theorem dX11_drinker_109 : decode cX11_drinker 109 = .ok (.ireturn, 1) := by decide +kernel
theorem dX11_drinker_110 : decode cX11_drinker 110 = .ok (.bipush (-2), 2) := by decide +kernel
theorem dX11_drinker_112 : decode cX11_drinker 112 = .ok (.ireturn, 1) := by decide +kernel
theorem dX11_keepAct_0 : decode cX11_keepAct 0 = .ok (.iconst 0, 1) := by decide +kernel
theorem dX11_keepAct_1 : decode cX11_keepAct 1 = .ok (.istore_n 1, 1) := by decide +kernel
theorem dX11_keepAct_2 : decode cX11_keepAct 2 = .ok (.iload_n 1, 1) := by decide +kernel
theorem dX11_keepAct_3 : decode cX11_keepAct 3 = .ok (.bipush 15, 2) := by decide +kernel
theorem dX11_keepAct_5 : decode cX11_keepAct 5 = .ok (.if_icmp .ge 29, 3) := by decide +kernel
theorem dX11_keepAct_8 : decode cX11_keepAct 8 = .ok (.aload_n 0, 1) := by decide +kernel
theorem dX11_keepAct_9 : decode cX11_keepAct 9 = .ok (.getfield 37, 3) := by decide +kernel
theorem dX11_keepAct_12 : decode cX11_keepAct 12 = .ok (.bipush 15, 2) := by decide +kernel
theorem dX11_keepAct_14 : decode cX11_keepAct 14 = .ok (.aload_n 0, 1) := by decide +kernel
theorem dX11_keepAct_15 : decode cX11_keepAct 15 = .ok (.getfield 139, 3) := by decide +kernel
theorem dX11_keepAct_18 : decode cX11_keepAct 18 = .ok (.imul, 1) := by decide +kernel
theorem dX11_keepAct_19 : decode cX11_keepAct 19 = .ok (.iload_n 1, 1) := by decide +kernel
theorem dX11_keepAct_20 : decode cX11_keepAct 20 = .ok (.iadd, 1) := by decide +kernel
theorem dX11_keepAct_21 : decode cX11_keepAct 21 = .ok (.aload_n 0, 1) := by decide +kernel
theorem dX11_keepAct_22 : decode cX11_keepAct 22 = .ok (.getfield 22, 3) := by decide +kernel
theorem dX11_keepAct_25 : decode cX11_keepAct 25 = .ok (.iload_n 1, 1) := by decide +kernel
theorem dX11_keepAct_26 : decode cX11_keepAct 26 = .ok (.iaload, 1) := by decide +kernel
theorem dX11_keepAct_27 : decode cX11_keepAct 27 = .ok (.iastore, 1) := by decide +kernel
theorem dX11_keepAct_28 : decode cX11_keepAct 28 = .ok (.iinc 1 1, 3) := by decide +kernel
theorem dX11_keepAct_31 : decode cX11_keepAct 31 = .ok (.goto (-29), 3) := by decide +kernel
theorem dX11_keepAct_34 : decode cX11_keepAct 34 = .ok (.aload_n 0, 1) := by decide +kernel
theorem dX11_keepAct_35 : decode cX11_keepAct 35 = .ok (.aload_n 0, 1) := by decide +kernel
theorem dX11_keepAct_36 : decode cX11_keepAct 36 = .ok (.getfield 139, 3) := by decide +kernel
theorem dX11_keepAct_39 : decode cX11_keepAct 39 = .ok (.iconst 1, 1) := by decide +kernel
theorem dX11_keepAct_40 : decode cX11_keepAct 40 = .ok (.iadd, 1) := by decide +kernel
theorem dX11_keepAct_41 : decode cX11_keepAct 41 = .ok (.bipush 14, 2) := by decide +kernel
theorem dX11_keepAct_43 : decode cX11_keepAct 43 = .ok (.irem, 1) := by decide +kernel
theorem dX11_keepAct_44 : decode cX11_keepAct 44 = .ok (.putfield 139, 3) := by decide +kernel
theorem dX11_keepAct_47 : decode cX11_keepAct 47 = .ok (.aload_n 0, 1) := by decide +kernel
theorem dX11_keepAct_48 : decode cX11_keepAct 48 = .ok (.aload_n 0, 1) := by decide +kernel
theorem dX11_keepAct_49 : decode cX11_keepAct 49 = .ok (.getfield 108, 3) := by decide +kernel
theorem dX11_keepAct_52 : decode cX11_keepAct 52 = .ok (.bipush 14, 2) := by decide +kernel
theorem dX11_keepAct_54 : decode cX11_keepAct 54 = .ok (.if_icmp .ge 12, 3) := by decide +kernel
theorem dX11_keepAct_57 : decode cX11_keepAct 57 = .ok (.aload_n 0, 1) := by decide +kernel
theorem dX11_keepAct_58 : decode cX11_keepAct 58 = .ok (.getfield 108, 3) := by decide +kernel
theorem dX11_keepAct_61 : decode cX11_keepAct 61 = .ok (.iconst 1, 1) := by decide +kernel
theorem dX11_keepAct_62 : decode cX11_keepAct 62 = .ok (.iadd, 1) := by decide +kernel
theorem dX11_keepAct_63 : decode cX11_keepAct 63 = .ok (.goto 5, 3) := by decide +kernel
theorem dX11_keepAct_66 : decode cX11_keepAct 66 = .ok (.bipush 14, 2) := by decide +kernel
theorem dX11_keepAct_68 : decode cX11_keepAct 68 = .ok (.putfield 108, 3) := by decide +kernel
theorem dX11_keepAct_71 : decode cX11_keepAct 71 = .ok (.return_, 1) := by decide +kernel
theorem dX11_roomIn_0 : decode cX11_roomIn 0 = .ok (.aload_n 0, 1) := by decide +kernel
theorem dX11_roomIn_1 : decode cX11_roomIn 1 = .ok (.getfield 7, 3) := by decide +kernel
theorem dX11_roomIn_4 : decode cX11_roomIn 4 = .ok (.iload_n 2, 1) := by decide +kernel
theorem dX11_roomIn_5 : decode cX11_roomIn 5 = .ok (.iaload, 1) := by decide +kernel
theorem dX11_roomIn_6 : decode cX11_roomIn 6 = .ok (.aload_n 0, 1) := by decide +kernel
theorem dX11_roomIn_7 : decode cX11_roomIn 7 = .ok (.getfield 22, 3) := by decide +kernel
theorem dX11_roomIn_10 : decode cX11_roomIn 10 = .ok (.bipush 15, 2) := by decide +kernel
theorem dX11_roomIn_12 : decode cX11_roomIn 12 = .ok (.iload_n 1, 1) := by decide +kernel
theorem dX11_roomIn_13 : decode cX11_roomIn 13 = .ok (.imul, 1) := by decide +kernel
theorem dX11_roomIn_14 : decode cX11_roomIn 14 = .ok (.iload_n 2, 1) := by decide +kernel
theorem dX11_roomIn_15 : decode cX11_roomIn 15 = .ok (.iadd, 1) := by decide +kernel
theorem dX11_roomIn_16 : decode cX11_roomIn 16 = .ok (.iaload, 1) := by decide +kernel
theorem dX11_roomIn_17 : decode cX11_roomIn 17 = .ok (.isub, 1) := by decide +kernel
theorem dX11_roomIn_18 : decode cX11_roomIn 18 = .ok (.ireturn, 1) := by decide +kernel
theorem dX11_pourOn_0 : decode cX11_pourOn 0 = .ok (.iload_n 3, 1) := by decide +kernel
theorem dX11_pourOn_1 : decode cX11_pourOn 1 = .ok (.aload_n 0, 1) := by decide +kernel
theorem dX11_pourOn_2 : decode cX11_pourOn 2 = .ok (.iload_n 1, 1) := by decide +kernel
theorem dX11_pourOn_3 : decode cX11_pourOn 3 = .ok (.iload_n 2, 1) := by decide +kernel
theorem dX11_pourOn_4 : decode cX11_pourOn 4 = .ok (.invokevirtual 142, 3) := by decide +kernel
theorem dX11_pourOn_7 : decode cX11_pourOn 7 = .ok (.if_icmp .ge 7, 3) := by decide +kernel
theorem dX11_pourOn_10 : decode cX11_pourOn 10 = .ok (.iload_n 3, 1) := by decide +kernel
theorem dX11_pourOn_11 : decode cX11_pourOn 11 = .ok (.goto 9, 3) := by decide +kernel
theorem dX11_pourOn_14 : decode cX11_pourOn 14 = .ok (.aload_n 0, 1) := by decide +kernel
theorem dX11_pourOn_15 : decode cX11_pourOn 15 = .ok (.iload_n 1, 1) := by decide +kernel
theorem dX11_pourOn_16 : decode cX11_pourOn 16 = .ok (.iload_n 2, 1) := by decide +kernel
theorem dX11_pourOn_17 : decode cX11_pourOn 17 = .ok (.invokevirtual 142, 3) := by decide +kernel
theorem dX11_pourOn_20 : decode cX11_pourOn 20 = .ok (.istore 4, 2) := by decide +kernel
theorem dX11_pourOn_22 : decode cX11_pourOn 22 = .ok (.aload_n 0, 1) := by decide +kernel
theorem dX11_pourOn_23 : decode cX11_pourOn 23 = .ok (.getfield 22, 3) := by decide +kernel
theorem dX11_pourOn_26 : decode cX11_pourOn 26 = .ok (.bipush 15, 2) := by decide +kernel
theorem dX11_pourOn_28 : decode cX11_pourOn 28 = .ok (.iload_n 1, 1) := by decide +kernel
theorem dX11_pourOn_29 : decode cX11_pourOn 29 = .ok (.imul, 1) := by decide +kernel
theorem dX11_pourOn_30 : decode cX11_pourOn 30 = .ok (.iload_n 2, 1) := by decide +kernel
theorem dX11_pourOn_31 : decode cX11_pourOn 31 = .ok (.iadd, 1) := by decide +kernel
theorem dX11_pourOn_32 : decode cX11_pourOn 32 = .ok (.dup2, 1) := by decide +kernel
theorem dX11_pourOn_33 : decode cX11_pourOn 33 = .ok (.iaload, 1) := by decide +kernel
theorem dX11_pourOn_34 : decode cX11_pourOn 34 = .ok (.iload 4, 2) := by decide +kernel
theorem dX11_pourOn_36 : decode cX11_pourOn 36 = .ok (.iadd, 1) := by decide +kernel
theorem dX11_pourOn_37 : decode cX11_pourOn 37 = .ok (.iastore, 1) := by decide +kernel
theorem dX11_pourOn_38 : decode cX11_pourOn 38 = .ok (.aload_n 0, 1) := by decide +kernel
theorem dX11_pourOn_39 : decode cX11_pourOn 39 = .ok (.getfield 22, 3) := by decide +kernel
theorem dX11_pourOn_42 : decode cX11_pourOn 42 = .ok (.bipush 15, 2) := by decide +kernel
theorem dX11_pourOn_44 : decode cX11_pourOn 44 = .ok (.iload_n 1, 1) := by decide +kernel
theorem dX11_pourOn_45 : decode cX11_pourOn 45 = .ok (.imul, 1) := by decide +kernel
theorem dX11_pourOn_46 : decode cX11_pourOn 46 = .ok (.iconst 5, 1) := by decide +kernel
theorem dX11_pourOn_47 : decode cX11_pourOn 47 = .ok (.iadd, 1) := by decide +kernel
theorem dX11_pourOn_48 : decode cX11_pourOn 48 = .ok (.iload_n 2, 1) := by decide +kernel
theorem dX11_pourOn_49 : decode cX11_pourOn 49 = .ok (.iadd, 1) := by decide +kernel
theorem dX11_pourOn_50 : decode cX11_pourOn 50 = .ok (.iconst 0, 1) := by decide +kernel
theorem dX11_pourOn_51 : decode cX11_pourOn 51 = .ok (.iastore, 1) := by decide +kernel
theorem dX11_pourOn_52 : decode cX11_pourOn 52 = .ok (.iload 4, 2) := by decide +kernel
theorem dX11_pourOn_54 : decode cX11_pourOn 54 = .ok (.ireturn, 1) := by decide +kernel
theorem dX11_pour_0 : decode cX11_pour 0 = .ok (.aload_n 0, 1) := by decide +kernel
theorem dX11_pour_1 : decode cX11_pour 1 = .ok (.iload_n 1, 1) := by decide +kernel
theorem dX11_pour_2 : decode cX11_pour 2 = .ok (.invokevirtual 126, 3) := by decide +kernel
theorem dX11_pour_5 : decode cX11_pour 5 = .ok (.ifCond .ne 5, 3) := by decide +kernel
theorem dX11_pour_8 : decode cX11_pour 8 = .ok (.iconst (-1), 1) := by decide +kernel
theorem dX11_pour_9 : decode cX11_pour 9 = .ok (.ireturn, 1) := by decide +kernel
theorem dX11_pour_10 : decode cX11_pour 10 = .ok (.iload_n 2, 1) := by decide +kernel
theorem dX11_pour_11 : decode cX11_pour 11 = .ok (.i2l, 1) := by decide +kernel
theorem dX11_pour_12 : decode cX11_pour 12 = .ok (.lconst 1, 1) := by decide +kernel
theorem dX11_pour_13 : decode cX11_pour 13 = .ok (.ldc2_w 75, 3) := by decide +kernel
theorem dX11_pour_16 : decode cX11_pour 16 = .ok (.invokestatic 62, 3) := by decide +kernel
theorem dX11_pour_19 : decode cX11_pour 19 = .ok (.ifCond .ne 6, 3) := by decide +kernel
theorem dX11_pour_22 : decode cX11_pour 22 = .ok (.bipush (-2), 2) := by decide +kernel
theorem dX11_pour_24 : decode cX11_pour 24 = .ok (.ireturn, 1) := by decide +kernel
theorem dX11_pour_25 : decode cX11_pour 25 = .ok (.aload_n 0, 1) := by decide +kernel
theorem dX11_pour_26 : decode cX11_pour 26 = .ok (.iconst 0, 1) := by decide +kernel
theorem dX11_pour_27 : decode cX11_pour 27 = .ok (.iload_n 1, 1) := by decide +kernel
theorem dX11_pour_28 : decode cX11_pour 28 = .ok (.invokevirtual 142, 3) := by decide +kernel
theorem dX11_pour_31 : decode cX11_pour 31 = .ok (.ifCond .ne 6, 3) := by decide +kernel
theorem dX11_pour_34 : decode cX11_pour 34 = .ok (.bipush (-3), 2) := by decide +kernel
theorem dX11_pour_36 : decode cX11_pour 36 = .ok (.ireturn, 1) := by decide +kernel
theorem dX11_pour_37 : decode cX11_pour 37 = .ok (.aload_n 0, 1) := by decide +kernel
theorem dX11_pour_38 : decode cX11_pour 38 = .ok (.invokevirtual 145, 3) := by decide +kernel
theorem dX11_pour_41 : decode cX11_pour 41 = .ok (.aload_n 0, 1) := by decide +kernel
theorem dX11_pour_42 : decode cX11_pour 42 = .ok (.iconst 0, 1) := by decide +kernel
theorem dX11_pour_43 : decode cX11_pour 43 = .ok (.iload_n 1, 1) := by decide +kernel
theorem dX11_pour_44 : decode cX11_pour 44 = .ok (.iload_n 2, 1) := by decide +kernel
theorem dX11_pour_45 : decode cX11_pour 45 = .ok (.invokevirtual 148, 3) := by decide +kernel
theorem dX11_pour_48 : decode cX11_pour 48 = .ok (.ireturn, 1) := by decide +kernel
theorem dX11_drink_0 : decode cX11_drink 0 = .ok (.aload_n 0, 1) := by decide +kernel
theorem dX11_drink_1 : decode cX11_drink 1 = .ok (.iload_n 1, 1) := by decide +kernel
theorem dX11_drink_2 : decode cX11_drink 2 = .ok (.invokevirtual 133, 3) := by decide +kernel
theorem dX11_drink_5 : decode cX11_drink 5 = .ok (.ifCond .eq 11, 3) := by decide +kernel
theorem dX11_drink_8 : decode cX11_drink 8 = .ok (.aload_n 0, 1) := by decide +kernel
theorem dX11_drink_9 : decode cX11_drink 9 = .ok (.iload_n 2, 1) := by decide +kernel
theorem dX11_drink_10 : decode cX11_drink 10 = .ok (.invokevirtual 126, 3) := by decide +kernel
theorem dX11_drink_13 : decode cX11_drink 13 = .ok (.ifCond .ne 5, 3) := by decide +kernel
theorem dX11_drink_16 : decode cX11_drink 16 = .ok (.iconst (-1), 1) := by decide +kernel
theorem dX11_drink_17 : decode cX11_drink 17 = .ok (.ireturn, 1) := by decide +kernel
theorem dX11_drink_18 : decode cX11_drink 18 = .ok (.aload_n 0, 1) := by decide +kernel
theorem dX11_drink_19 : decode cX11_drink 19 = .ok (.getfield 19, 3) := by decide +kernel
theorem dX11_drink_22 : decode cX11_drink 22 = .ok (.iload_n 1, 1) := by decide +kernel
theorem dX11_drink_23 : decode cX11_drink 23 = .ok (.iaload, 1) := by decide +kernel
theorem dX11_drink_24 : decode cX11_drink 24 = .ok (.iload_n 2, 1) := by decide +kernel
theorem dX11_drink_25 : decode cX11_drink 25 = .ok (.invokestatic 77, 3) := by decide +kernel
theorem dX11_drink_28 : decode cX11_drink 28 = .ok (.ifCond .ne 6, 3) := by decide +kernel
theorem dX11_drink_31 : decode cX11_drink 31 = .ok (.bipush (-3), 2) := by decide +kernel
theorem dX11_drink_33 : decode cX11_drink 33 = .ok (.ireturn, 1) := by decide +kernel
theorem dX11_drink_34 : decode cX11_drink 34 = .ok (.aload_n 0, 1) := by decide +kernel
theorem dX11_drink_35 : decode cX11_drink 35 = .ok (.invokevirtual 145, 3) := by decide +kernel
theorem dX11_drink_38 : decode cX11_drink 38 = .ok (.aload_n 0, 1) := by decide +kernel
theorem dX11_drink_39 : decode cX11_drink 39 = .ok (.iconst 0, 1) := by decide +kernel
theorem dX11_drink_40 : decode cX11_drink 40 = .ok (.iload_n 1, 1) := by decide +kernel
theorem dX11_drink_41 : decode cX11_drink 41 = .ok (.iload_n 2, 1) := by decide +kernel
theorem dX11_drink_42 : decode cX11_drink 42 = .ok (.invokevirtual 115, 3) := by decide +kernel
theorem dX11_drink_45 : decode cX11_drink 45 = .ok (.ireturn, 1) := by decide +kernel
theorem dX11_canTip_0 : decode cX11_canTip 0 = .ok (.aload_n 0, 1) := by decide +kernel
theorem dX11_canTip_1 : decode cX11_canTip 1 = .ok (.iload_n 2, 1) := by decide +kernel
theorem dX11_canTip_2 : decode cX11_canTip 2 = .ok (.invokevirtual 126, 3) := by decide +kernel
theorem dX11_canTip_5 : decode cX11_canTip 5 = .ok (.ifCond .eq 43, 3) := by decide +kernel
theorem dX11_canTip_8 : decode cX11_canTip 8 = .ok (.aload_n 0, 1) := by decide +kernel
theorem dX11_canTip_9 : decode cX11_canTip 9 = .ok (.iload_n 3, 1) := by decide +kernel
theorem dX11_canTip_10 : decode cX11_canTip 10 = .ok (.invokevirtual 126, 3) := by decide +kernel
theorem dX11_canTip_13 : decode cX11_canTip 13 = .ok (.ifCond .eq 35, 3) := by decide +kernel
theorem dX11_canTip_16 : decode cX11_canTip 16 = .ok (.iload_n 2, 1) := by decide +kernel
theorem dX11_canTip_17 : decode cX11_canTip 17 = .ok (.iload_n 3, 1) := by decide +kernel
theorem dX11_canTip_18 : decode cX11_canTip 18 = .ok (.if_icmp .eq 30, 3) := by decide +kernel
theorem dX11_canTip_21 : decode cX11_canTip 21 = .ok (.aload_n 0, 1) := by decide +kernel
theorem dX11_canTip_22 : decode cX11_canTip 22 = .ok (.getfield 22, 3) := by decide +kernel
theorem dX11_canTip_25 : decode cX11_canTip 25 = .ok (.bipush 15, 2) := by decide +kernel
theorem dX11_canTip_27 : decode cX11_canTip 27 = .ok (.iload_n 1, 1) := by decide +kernel
theorem dX11_canTip_28 : decode cX11_canTip 28 = .ok (.imul, 1) := by decide +kernel
theorem dX11_canTip_29 : decode cX11_canTip 29 = .ok (.iload_n 2, 1) := by decide +kernel
theorem dX11_canTip_30 : decode cX11_canTip 30 = .ok (.iadd, 1) := by decide +kernel
theorem dX11_canTip_31 : decode cX11_canTip 31 = .ok (.iaload, 1) := by decide +kernel
theorem dX11_canTip_32 : decode cX11_canTip 32 = .ok (.ifCond .le 16, 3) := by decide +kernel
theorem dX11_canTip_35 : decode cX11_canTip 35 = .ok (.aload_n 0, 1) := by decide +kernel
theorem dX11_canTip_36 : decode cX11_canTip 36 = .ok (.iload_n 1, 1) := by decide +kernel
theorem dX11_canTip_37 : decode cX11_canTip 37 = .ok (.iload_n 3, 1) := by decide +kernel
theorem dX11_canTip_38 : decode cX11_canTip 38 = .ok (.invokevirtual 142, 3) := by decide +kernel
theorem dX11_canTip_41 : decode cX11_canTip 41 = .ok (.ifCond .le 7, 3) := by decide +kernel
theorem dX11_canTip_44 : decode cX11_canTip 44 = .ok (.iconst 1, 1) := by decide +kernel
theorem dX11_canTip_45 : decode cX11_canTip 45 = .ok (.goto 4, 3) := by decide +kernel
theorem dX11_canTip_48 : decode cX11_canTip 48 = .ok (.iconst 0, 1) := by decide +kernel
theorem dX11_canTip_49 : decode cX11_canTip 49 = .ok (.ireturn, 1) := by decide +kernel
theorem dX11_tipOn_0 : decode cX11_tipOn 0 = .ok (.bipush 15, 2) := by decide +kernel
theorem dX11_tipOn_2 : decode cX11_tipOn 2 = .ok (.iload_n 1, 1) := by decide +kernel
theorem dX11_tipOn_3 : decode cX11_tipOn 3 = .ok (.imul, 1) := by decide +kernel
theorem dX11_tipOn_4 : decode cX11_tipOn 4 = .ok (.istore 4, 2) := by decide +kernel
theorem dX11_tipOn_6 : decode cX11_tipOn 6 = .ok (.aload_n 0, 1) := by decide +kernel
theorem dX11_tipOn_7 : decode cX11_tipOn 7 = .ok (.getfield 22, 3) := by decide +kernel
theorem dX11_tipOn_10 : decode cX11_tipOn 10 = .ok (.iload 4, 2) := by decide +kernel
theorem dX11_tipOn_12 : decode cX11_tipOn 12 = .ok (.iload_n 2, 1) := by decide +kernel
theorem dX11_tipOn_13 : decode cX11_tipOn 13 = .ok (.iadd, 1) := by decide +kernel
theorem dX11_tipOn_14 : decode cX11_tipOn 14 = .ok (.iaload, 1) := by decide +kernel
theorem dX11_tipOn_15 : decode cX11_tipOn 15 = .ok (.aload_n 0, 1) := by decide +kernel
theorem dX11_tipOn_16 : decode cX11_tipOn 16 = .ok (.iload_n 1, 1) := by decide +kernel
theorem dX11_tipOn_17 : decode cX11_tipOn 17 = .ok (.iload_n 3, 1) := by decide +kernel
theorem dX11_tipOn_18 : decode cX11_tipOn 18 = .ok (.invokevirtual 142, 3) := by decide +kernel
theorem dX11_tipOn_21 : decode cX11_tipOn 21 = .ok (.if_icmp .ge 15, 3) := by decide +kernel
theorem dX11_tipOn_24 : decode cX11_tipOn 24 = .ok (.aload_n 0, 1) := by decide +kernel
theorem dX11_tipOn_25 : decode cX11_tipOn 25 = .ok (.getfield 22, 3) := by decide +kernel
theorem dX11_tipOn_28 : decode cX11_tipOn 28 = .ok (.iload 4, 2) := by decide +kernel
theorem dX11_tipOn_30 : decode cX11_tipOn 30 = .ok (.iload_n 2, 1) := by decide +kernel
theorem dX11_tipOn_31 : decode cX11_tipOn 31 = .ok (.iadd, 1) := by decide +kernel
theorem dX11_tipOn_32 : decode cX11_tipOn 32 = .ok (.iaload, 1) := by decide +kernel
theorem dX11_tipOn_33 : decode cX11_tipOn 33 = .ok (.goto 9, 3) := by decide +kernel
theorem dX11_tipOn_36 : decode cX11_tipOn 36 = .ok (.aload_n 0, 1) := by decide +kernel
theorem dX11_tipOn_37 : decode cX11_tipOn 37 = .ok (.iload_n 1, 1) := by decide +kernel
theorem dX11_tipOn_38 : decode cX11_tipOn 38 = .ok (.iload_n 3, 1) := by decide +kernel
theorem dX11_tipOn_39 : decode cX11_tipOn 39 = .ok (.invokevirtual 142, 3) := by decide +kernel
theorem dX11_tipOn_42 : decode cX11_tipOn 42 = .ok (.istore 5, 2) := by decide +kernel
theorem dX11_tipOn_44 : decode cX11_tipOn 44 = .ok (.aload_n 0, 1) := by decide +kernel
theorem dX11_tipOn_45 : decode cX11_tipOn 45 = .ok (.getfield 22, 3) := by decide +kernel
theorem dX11_tipOn_48 : decode cX11_tipOn 48 = .ok (.iload 4, 2) := by decide +kernel
theorem dX11_tipOn_50 : decode cX11_tipOn 50 = .ok (.iload_n 2, 1) := by decide +kernel
theorem dX11_tipOn_51 : decode cX11_tipOn 51 = .ok (.iadd, 1) := by decide +kernel
theorem dX11_tipOn_52 : decode cX11_tipOn 52 = .ok (.dup2, 1) := by decide +kernel
theorem dX11_tipOn_53 : decode cX11_tipOn 53 = .ok (.iaload, 1) := by decide +kernel
theorem dX11_tipOn_54 : decode cX11_tipOn 54 = .ok (.iload 5, 2) := by decide +kernel
theorem dX11_tipOn_56 : decode cX11_tipOn 56 = .ok (.isub, 1) := by decide +kernel
theorem dX11_tipOn_57 : decode cX11_tipOn 57 = .ok (.iastore, 1) := by decide +kernel
theorem dX11_tipOn_58 : decode cX11_tipOn 58 = .ok (.aload_n 0, 1) := by decide +kernel
theorem dX11_tipOn_59 : decode cX11_tipOn 59 = .ok (.getfield 22, 3) := by decide +kernel
theorem dX11_tipOn_62 : decode cX11_tipOn 62 = .ok (.iload 4, 2) := by decide +kernel
theorem dX11_tipOn_64 : decode cX11_tipOn 64 = .ok (.iload_n 3, 1) := by decide +kernel
theorem dX11_tipOn_65 : decode cX11_tipOn 65 = .ok (.iadd, 1) := by decide +kernel
theorem dX11_tipOn_66 : decode cX11_tipOn 66 = .ok (.dup2, 1) := by decide +kernel
theorem dX11_tipOn_67 : decode cX11_tipOn 67 = .ok (.iaload, 1) := by decide +kernel
theorem dX11_tipOn_68 : decode cX11_tipOn 68 = .ok (.iload 5, 2) := by decide +kernel
theorem dX11_tipOn_70 : decode cX11_tipOn 70 = .ok (.iadd, 1) := by decide +kernel
theorem dX11_tipOn_71 : decode cX11_tipOn 71 = .ok (.iastore, 1) := by decide +kernel
theorem dX11_tipOn_72 : decode cX11_tipOn 72 = .ok (.aload_n 0, 1) := by decide +kernel
theorem dX11_tipOn_73 : decode cX11_tipOn 73 = .ok (.getfield 22, 3) := by decide +kernel
theorem dX11_tipOn_76 : decode cX11_tipOn 76 = .ok (.iload 4, 2) := by decide +kernel
theorem dX11_tipOn_78 : decode cX11_tipOn 78 = .ok (.iconst 5, 1) := by decide +kernel
theorem dX11_tipOn_79 : decode cX11_tipOn 79 = .ok (.iadd, 1) := by decide +kernel
theorem dX11_tipOn_80 : decode cX11_tipOn 80 = .ok (.iload_n 2, 1) := by decide +kernel
theorem dX11_tipOn_81 : decode cX11_tipOn 81 = .ok (.iadd, 1) := by decide +kernel
theorem dX11_tipOn_82 : decode cX11_tipOn 82 = .ok (.iaload, 1) := by decide +kernel
theorem dX11_tipOn_83 : decode cX11_tipOn 83 = .ok (.istore 6, 2) := by decide +kernel
theorem dX11_tipOn_85 : decode cX11_tipOn 85 = .ok (.aload_n 0, 1) := by decide +kernel
theorem dX11_tipOn_86 : decode cX11_tipOn 86 = .ok (.getfield 22, 3) := by decide +kernel
theorem dX11_tipOn_89 : decode cX11_tipOn 89 = .ok (.iload 4, 2) := by decide +kernel
theorem dX11_tipOn_91 : decode cX11_tipOn 91 = .ok (.iconst 5, 1) := by decide +kernel
theorem dX11_tipOn_92 : decode cX11_tipOn 92 = .ok (.iadd, 1) := by decide +kernel
theorem dX11_tipOn_93 : decode cX11_tipOn 93 = .ok (.iload_n 3, 1) := by decide +kernel
theorem dX11_tipOn_94 : decode cX11_tipOn 94 = .ok (.iadd, 1) := by decide +kernel
theorem dX11_tipOn_95 : decode cX11_tipOn 95 = .ok (.iload 6, 2) := by decide +kernel
theorem dX11_tipOn_97 : decode cX11_tipOn 97 = .ok (.aload_n 0, 1) := by decide +kernel
theorem dX11_tipOn_98 : decode cX11_tipOn 98 = .ok (.getfield 22, 3) := by decide +kernel
theorem dX11_tipOn_101 : decode cX11_tipOn 101 = .ok (.iload 4, 2) := by decide +kernel
theorem dX11_tipOn_103 : decode cX11_tipOn 103 = .ok (.iconst 5, 1) := by decide +kernel
theorem dX11_tipOn_104 : decode cX11_tipOn 104 = .ok (.iadd, 1) := by decide +kernel
theorem dX11_tipOn_105 : decode cX11_tipOn 105 = .ok (.iload_n 3, 1) := by decide +kernel
theorem dX11_tipOn_106 : decode cX11_tipOn 106 = .ok (.iadd, 1) := by decide +kernel
theorem dX11_tipOn_107 : decode cX11_tipOn 107 = .ok (.iaload, 1) := by decide +kernel
theorem dX11_tipOn_108 : decode cX11_tipOn 108 = .ok (.if_icmp .le 8, 3) := by decide +kernel
theorem dX11_tipOn_111 : decode cX11_tipOn 111 = .ok (.iload 6, 2) := by decide +kernel
theorem dX11_tipOn_113 : decode cX11_tipOn 113 = .ok (.goto 14, 3) := by decide +kernel
theorem dX11_tipOn_116 : decode cX11_tipOn 116 = .ok (.aload_n 0, 1) := by decide +kernel
theorem dX11_tipOn_117 : decode cX11_tipOn 117 = .ok (.getfield 22, 3) := by decide +kernel
theorem dX11_tipOn_120 : decode cX11_tipOn 120 = .ok (.iload 4, 2) := by decide +kernel
theorem dX11_tipOn_122 : decode cX11_tipOn 122 = .ok (.iconst 5, 1) := by decide +kernel
theorem dX11_tipOn_123 : decode cX11_tipOn 123 = .ok (.iadd, 1) := by decide +kernel
theorem dX11_tipOn_124 : decode cX11_tipOn 124 = .ok (.iload_n 3, 1) := by decide +kernel
theorem dX11_tipOn_125 : decode cX11_tipOn 125 = .ok (.iadd, 1) := by decide +kernel
theorem dX11_tipOn_126 : decode cX11_tipOn 126 = .ok (.iaload, 1) := by decide +kernel
theorem dX11_tipOn_127 : decode cX11_tipOn 127 = .ok (.iastore, 1) := by decide +kernel
theorem dX11_tipOn_128 : decode cX11_tipOn 128 = .ok (.iload 5, 2) := by decide +kernel
theorem dX11_tipOn_130 : decode cX11_tipOn 130 = .ok (.ireturn, 1) := by decide +kernel
theorem dX11_tip_0 : decode cX11_tip 0 = .ok (.aload_n 0, 1) := by decide +kernel
theorem dX11_tip_1 : decode cX11_tip 1 = .ok (.iload_n 1, 1) := by decide +kernel
theorem dX11_tip_2 : decode cX11_tip 2 = .ok (.invokevirtual 126, 3) := by decide +kernel
theorem dX11_tip_5 : decode cX11_tip 5 = .ok (.ifCond .eq 11, 3) := by decide +kernel
theorem dX11_tip_8 : decode cX11_tip 8 = .ok (.aload_n 0, 1) := by decide +kernel
theorem dX11_tip_9 : decode cX11_tip 9 = .ok (.iload_n 2, 1) := by decide +kernel
theorem dX11_tip_10 : decode cX11_tip 10 = .ok (.invokevirtual 126, 3) := by decide +kernel
theorem dX11_tip_13 : decode cX11_tip 13 = .ok (.ifCond .ne 5, 3) := by decide +kernel
theorem dX11_tip_16 : decode cX11_tip 16 = .ok (.iconst (-1), 1) := by decide +kernel
theorem dX11_tip_17 : decode cX11_tip 17 = .ok (.ireturn, 1) := by decide +kernel
theorem dX11_tip_18 : decode cX11_tip 18 = .ok (.iload_n 1, 1) := by decide +kernel
theorem dX11_tip_19 : decode cX11_tip 19 = .ok (.iload_n 2, 1) := by decide +kernel
theorem dX11_tip_20 : decode cX11_tip 20 = .ok (.if_icmp .ne 6, 3) := by decide +kernel
theorem dX11_tip_23 : decode cX11_tip 23 = .ok (.bipush (-2), 2) := by decide +kernel
theorem dX11_tip_25 : decode cX11_tip 25 = .ok (.ireturn, 1) := by decide +kernel
theorem dX11_tip_26 : decode cX11_tip 26 = .ok (.aload_n 0, 1) := by decide +kernel
theorem dX11_tip_27 : decode cX11_tip 27 = .ok (.iconst 0, 1) := by decide +kernel
theorem dX11_tip_28 : decode cX11_tip 28 = .ok (.iload_n 1, 1) := by decide +kernel
theorem dX11_tip_29 : decode cX11_tip 29 = .ok (.iload_n 2, 1) := by decide +kernel
theorem dX11_tip_30 : decode cX11_tip 30 = .ok (.invokevirtual 151, 3) := by decide +kernel
theorem dX11_tip_33 : decode cX11_tip 33 = .ok (.ifCond .ne 6, 3) := by decide +kernel
theorem dX11_tip_36 : decode cX11_tip 36 = .ok (.bipush (-3), 2) := by decide +kernel
theorem dX11_tip_38 : decode cX11_tip 38 = .ok (.ireturn, 1) := by decide +kernel
theorem dX11_tip_39 : decode cX11_tip 39 = .ok (.aload_n 0, 1) := by decide +kernel
theorem dX11_tip_40 : decode cX11_tip 40 = .ok (.invokevirtual 145, 3) := by decide +kernel
theorem dX11_tip_43 : decode cX11_tip 43 = .ok (.aload_n 0, 1) := by decide +kernel
end
section
theorem dX11_tip_44 : decode cX11_tip 44 = .ok (.iconst 0, 1) := by decide +kernel
theorem dX11_tip_45 : decode cX11_tip 45 = .ok (.iload_n 1, 1) := by decide +kernel
theorem dX11_tip_46 : decode cX11_tip 46 = .ok (.iload_n 2, 1) := by decide +kernel
theorem dX11_tip_47 : decode cX11_tip 47 = .ok (.invokevirtual 155, 3) := by decide +kernel
theorem dX11_tip_50 : decode cX11_tip 50 = .ok (.ireturn, 1) := by decide +kernel
theorem dX11_hour_0 : decode cX11_hour 0 = .ok (.aload_n 0, 1) := by decide +kernel
theorem dX11_hour_1 : decode cX11_hour 1 = .ok (.invokevirtual 145, 3) := by decide +kernel
theorem dX11_hour_4 : decode cX11_hour 4 = .ok (.aload_n 0, 1) := by decide +kernel
theorem dX11_hour_5 : decode cX11_hour 5 = .ok (.iconst 0, 1) := by decide +kernel
theorem dX11_hour_6 : decode cX11_hour 6 = .ok (.invokevirtual 158, 3) := by decide +kernel
theorem dX11_hour_9 : decode cX11_hour 9 = .ok (.aload_n 0, 1) := by decide +kernel
theorem dX11_hour_10 : decode cX11_hour 10 = .ok (.iconst 0, 1) := by decide +kernel
theorem dX11_hour_11 : decode cX11_hour 11 = .ok (.invokevirtual 161, 3) := by decide +kernel
theorem dX11_hour_14 : decode cX11_hour 14 = .ok (.ireturn, 1) := by decide +kernel
theorem dX11_undo_0 : decode cX11_undo 0 = .ok (.aload_n 0, 1) := by decide +kernel
theorem dX11_undo_1 : decode cX11_undo 1 = .ok (.getfield 108, 3) := by decide +kernel
theorem dX11_undo_4 : decode cX11_undo 4 = .ok (.ifCond .ne 6, 3) := by decide +kernel
theorem dX11_undo_7 : decode cX11_undo 7 = .ok (.bipush (-3), 2) := by decide +kernel
theorem dX11_undo_9 : decode cX11_undo 9 = .ok (.ireturn, 1) := by decide +kernel
theorem dX11_undo_10 : decode cX11_undo 10 = .ok (.aload_n 0, 1) := by decide +kernel
theorem dX11_undo_11 : decode cX11_undo 11 = .ok (.dup, 1) := by decide +kernel
theorem dX11_undo_12 : decode cX11_undo 12 = .ok (.getfield 108, 3) := by decide +kernel
theorem dX11_undo_15 : decode cX11_undo 15 = .ok (.iconst 1, 1) := by decide +kernel
theorem dX11_undo_16 : decode cX11_undo 16 = .ok (.isub, 1) := by decide +kernel
theorem dX11_undo_17 : decode cX11_undo 17 = .ok (.putfield 108, 3) := by decide +kernel
theorem dX11_undo_20 : decode cX11_undo 20 = .ok (.aload_n 0, 1) := by decide +kernel
theorem dX11_undo_21 : decode cX11_undo 21 = .ok (.aload_n 0, 1) := by decide +kernel
theorem dX11_undo_22 : decode cX11_undo 22 = .ok (.getfield 139, 3) := by decide +kernel
theorem dX11_undo_25 : decode cX11_undo 25 = .ok (.bipush 13, 2) := by decide +kernel
theorem dX11_undo_27 : decode cX11_undo 27 = .ok (.iadd, 1) := by decide +kernel
theorem dX11_undo_28 : decode cX11_undo 28 = .ok (.bipush 14, 2) := by decide +kernel
theorem dX11_undo_30 : decode cX11_undo 30 = .ok (.irem, 1) := by decide +kernel
theorem dX11_undo_31 : decode cX11_undo 31 = .ok (.putfield 139, 3) := by decide +kernel
theorem dX11_undo_34 : decode cX11_undo 34 = .ok (.iconst 0, 1) := by decide +kernel
theorem dX11_undo_35 : decode cX11_undo 35 = .ok (.istore_n 1, 1) := by decide +kernel
theorem dX11_undo_36 : decode cX11_undo 36 = .ok (.iload_n 1, 1) := by decide +kernel
theorem dX11_undo_37 : decode cX11_undo 37 = .ok (.bipush 15, 2) := by decide +kernel
theorem dX11_undo_39 : decode cX11_undo 39 = .ok (.if_icmp .ge 29, 3) := by decide +kernel
theorem dX11_undo_42 : decode cX11_undo 42 = .ok (.aload_n 0, 1) := by decide +kernel
theorem dX11_undo_43 : decode cX11_undo 43 = .ok (.getfield 22, 3) := by decide +kernel
theorem dX11_undo_46 : decode cX11_undo 46 = .ok (.iload_n 1, 1) := by decide +kernel
theorem dX11_undo_47 : decode cX11_undo 47 = .ok (.aload_n 0, 1) := by decide +kernel
theorem dX11_undo_48 : decode cX11_undo 48 = .ok (.getfield 37, 3) := by decide +kernel
theorem dX11_undo_51 : decode cX11_undo 51 = .ok (.bipush 15, 2) := by decide +kernel
theorem dX11_undo_53 : decode cX11_undo 53 = .ok (.aload_n 0, 1) := by decide +kernel
theorem dX11_undo_54 : decode cX11_undo 54 = .ok (.getfield 139, 3) := by decide +kernel
theorem dX11_undo_57 : decode cX11_undo 57 = .ok (.imul, 1) := by decide +kernel
theorem dX11_undo_58 : decode cX11_undo 58 = .ok (.iload_n 1, 1) := by decide +kernel
theorem dX11_undo_59 : decode cX11_undo 59 = .ok (.iadd, 1) := by decide +kernel
theorem dX11_undo_60 : decode cX11_undo 60 = .ok (.iaload, 1) := by decide +kernel
theorem dX11_undo_61 : decode cX11_undo 61 = .ok (.iastore, 1) := by decide +kernel
theorem dX11_undo_62 : decode cX11_undo 62 = .ok (.iinc 1 1, 3) := by decide +kernel
theorem dX11_undo_65 : decode cX11_undo 65 = .ok (.goto (-29), 3) := by decide +kernel
theorem dX11_undo_68 : decode cX11_undo 68 = .ok (.aload_n 0, 1) := by decide +kernel
theorem dX11_undo_69 : decode cX11_undo 69 = .ok (.getfield 108, 3) := by decide +kernel
theorem dX11_undo_72 : decode cX11_undo 72 = .ok (.ireturn, 1) := by decide +kernel
theorem dX11_layTrial_0 : decode cX11_layTrial 0 = .ok (.iconst 0, 1) := by decide +kernel
theorem dX11_layTrial_1 : decode cX11_layTrial 1 = .ok (.istore_n 1, 1) := by decide +kernel
theorem dX11_layTrial_2 : decode cX11_layTrial 2 = .ok (.iload_n 1, 1) := by decide +kernel
theorem dX11_layTrial_3 : decode cX11_layTrial 3 = .ok (.bipush 15, 2) := by decide +kernel
theorem dX11_layTrial_5 : decode cX11_layTrial 5 = .ok (.if_icmp .ge 24, 3) := by decide +kernel
theorem dX11_layTrial_8 : decode cX11_layTrial 8 = .ok (.aload_n 0, 1) := by decide +kernel
theorem dX11_layTrial_9 : decode cX11_layTrial 9 = .ok (.getfield 22, 3) := by decide +kernel
theorem dX11_layTrial_12 : decode cX11_layTrial 12 = .ok (.bipush 15, 2) := by decide +kernel
theorem dX11_layTrial_14 : decode cX11_layTrial 14 = .ok (.iload_n 1, 1) := by decide +kernel
theorem dX11_layTrial_15 : decode cX11_layTrial 15 = .ok (.iadd, 1) := by decide +kernel
theorem dX11_layTrial_16 : decode cX11_layTrial 16 = .ok (.aload_n 0, 1) := by decide +kernel
theorem dX11_layTrial_17 : decode cX11_layTrial 17 = .ok (.getfield 22, 3) := by decide +kernel
theorem dX11_layTrial_20 : decode cX11_layTrial 20 = .ok (.iload_n 1, 1) := by decide +kernel
theorem dX11_layTrial_21 : decode cX11_layTrial 21 = .ok (.iaload, 1) := by decide +kernel
theorem dX11_layTrial_22 : decode cX11_layTrial 22 = .ok (.iastore, 1) := by decide +kernel
theorem dX11_layTrial_23 : decode cX11_layTrial 23 = .ok (.iinc 1 1, 3) := by decide +kernel
theorem dX11_layTrial_26 : decode cX11_layTrial 26 = .ok (.goto (-24), 3) := by decide +kernel
theorem dX11_layTrial_29 : decode cX11_layTrial 29 = .ok (.return_, 1) := by decide +kernel
theorem dX11_left_0 : decode cX11_left 0 = .ok (.aload_n 0, 1) := by decide +kernel
theorem dX11_left_1 : decode cX11_left 1 = .ok (.iload_n 1, 1) := by decide +kernel
theorem dX11_left_2 : decode cX11_left 2 = .ok (.invokevirtual 126, 3) := by decide +kernel
theorem dX11_left_5 : decode cX11_left 5 = .ok (.ifCond .ne 5, 3) := by decide +kernel
theorem dX11_left_8 : decode cX11_left 8 = .ok (.iconst (-1), 1) := by decide +kernel
theorem dX11_left_9 : decode cX11_left 9 = .ok (.ireturn, 1) := by decide +kernel
theorem dX11_left_10 : decode cX11_left 10 = .ok (.aload_n 0, 1) := by decide +kernel
theorem dX11_left_11 : decode cX11_left 11 = .ok (.invokevirtual 164, 3) := by decide +kernel
theorem dX11_left_14 : decode cX11_left 14 = .ok (.aload_n 0, 1) := by decide +kernel
theorem dX11_left_15 : decode cX11_left 15 = .ok (.iconst 1, 1) := by decide +kernel
theorem dX11_left_16 : decode cX11_left 16 = .ok (.bipush 15, 2) := by decide +kernel
theorem dX11_left_18 : decode cX11_left 18 = .ok (.invokevirtual 167, 3) := by decide +kernel
theorem dX11_left_21 : decode cX11_left 21 = .ok (.aload_n 0, 1) := by decide +kernel
theorem dX11_left_22 : decode cX11_left 22 = .ok (.getfield 22, 3) := by decide +kernel
theorem dX11_left_25 : decode cX11_left 25 = .ok (.bipush 15, 2) := by decide +kernel
theorem dX11_left_27 : decode cX11_left 27 = .ok (.iload_n 1, 1) := by decide +kernel
theorem dX11_left_28 : decode cX11_left 28 = .ok (.iadd, 1) := by decide +kernel
theorem dX11_left_29 : decode cX11_left 29 = .ok (.iaload, 1) := by decide +kernel
theorem dX11_left_30 : decode cX11_left 30 = .ok (.ireturn, 1) := by decide +kernel
theorem dX11_evening_0 : decode cX11_evening 0 = .ok (.iload_n 1, 1) := by decide +kernel
theorem dX11_evening_1 : decode cX11_evening 1 = .ok (.i2l, 1) := by decide +kernel
theorem dX11_evening_2 : decode cX11_evening 2 = .ok (.lconst 0, 1) := by decide +kernel
theorem dX11_evening_3 : decode cX11_evening 3 = .ok (.lconst 1, 1) := by decide +kernel
theorem dX11_evening_4 : decode cX11_evening 4 = .ok (.invokestatic 62, 3) := by decide +kernel
theorem dX11_evening_7 : decode cX11_evening 7 = .ok (.ifCond .ne 6, 3) := by decide +kernel
theorem dX11_evening_10 : decode cX11_evening 10 = .ok (.bipush (-2), 2) := by decide +kernel
theorem dX11_evening_12 : decode cX11_evening 12 = .ok (.ireturn, 1) := by decide +kernel
theorem dX11_evening_13 : decode cX11_evening 13 = .ok (.aload_n 0, 1) := by decide +kernel
theorem dX11_evening_14 : decode cX11_evening 14 = .ok (.invokevirtual 164, 3) := by decide +kernel
theorem dX11_evening_17 : decode cX11_evening 17 = .ok (.aload_n 0, 1) := by decide +kernel
theorem dX11_evening_18 : decode cX11_evening 18 = .ok (.iconst 1, 1) := by decide +kernel
theorem dX11_evening_19 : decode cX11_evening 19 = .ok (.bipush 15, 2) := by decide +kernel
theorem dX11_evening_21 : decode cX11_evening 21 = .ok (.invokevirtual 167, 3) := by decide +kernel
theorem dX11_evening_24 : decode cX11_evening 24 = .ok (.iload_n 1, 1) := by decide +kernel
theorem dX11_evening_25 : decode cX11_evening 25 = .ok (.ifCond .ne 11, 3) := by decide +kernel
theorem dX11_evening_28 : decode cX11_evening 28 = .ok (.aload_n 0, 1) := by decide +kernel
theorem dX11_evening_29 : decode cX11_evening 29 = .ok (.iconst 1, 1) := by decide +kernel
theorem dX11_evening_30 : decode cX11_evening 30 = .ok (.invokevirtual 161, 3) := by decide +kernel
theorem dX11_evening_33 : decode cX11_evening 33 = .ok (.goto 9, 3) := by decide +kernel
theorem dX11_evening_36 : decode cX11_evening 36 = .ok (.aload_n 0, 1) := by decide +kernel
theorem dX11_evening_37 : decode cX11_evening 37 = .ok (.iconst 1, 1) := by decide +kernel
theorem dX11_evening_38 : decode cX11_evening 38 = .ok (.iconst 1, 1) := by decide +kernel
theorem dX11_evening_39 : decode cX11_evening 39 = .ok (.invokevirtual 170, 3) := by decide +kernel
theorem dX11_evening_42 : decode cX11_evening 42 = .ok (.ireturn, 1) := by decide +kernel
theorem dX11_tenTo_0 : decode cX11_tenTo 0 = .ok (.iconst 1, 1) := by decide +kernel
theorem dX11_tenTo_1 : decode cX11_tenTo 1 = .ok (.istore_n 1, 1) := by decide +kernel
theorem dX11_tenTo_2 : decode cX11_tenTo 2 = .ok (.iconst 0, 1) := by decide +kernel
theorem dX11_tenTo_3 : decode cX11_tenTo 3 = .ok (.istore_n 2, 1) := by decide +kernel
theorem dX11_tenTo_4 : decode cX11_tenTo 4 = .ok (.iload_n 2, 1) := by decide +kernel
theorem dX11_tenTo_5 : decode cX11_tenTo 5 = .ok (.iload_n 0, 1) := by decide +kernel
theorem dX11_tenTo_6 : decode cX11_tenTo 6 = .ok (.if_icmp .ge 14, 3) := by decide +kernel
theorem dX11_tenTo_9 : decode cX11_tenTo 9 = .ok (.iload_n 1, 1) := by decide +kernel
theorem dX11_tenTo_10 : decode cX11_tenTo 10 = .ok (.bipush 10, 2) := by decide +kernel
theorem dX11_tenTo_12 : decode cX11_tenTo 12 = .ok (.imul, 1) := by decide +kernel
theorem dX11_tenTo_13 : decode cX11_tenTo 13 = .ok (.istore_n 1, 1) := by decide +kernel
theorem dX11_tenTo_14 : decode cX11_tenTo 14 = .ok (.iinc 2 1, 3) := by decide +kernel
theorem dX11_tenTo_17 : decode cX11_tenTo 17 = .ok (.goto (-13), 3) := by decide +kernel
theorem dX11_tenTo_20 : decode cX11_tenTo 20 = .ok (.iload_n 1, 1) := by decide +kernel
theorem dX11_tenTo_21 : decode cX11_tenTo 21 = .ok (.ireturn, 1) := by decide +kernel
theorem dX11_figuresSum_0 : decode cX11_figuresSum 0 = .ok (.iconst 0, 1) := by decide +kernel
theorem dX11_figuresSum_1 : decode cX11_figuresSum 1 = .ok (.istore_n 1, 1) := by decide +kernel
theorem dX11_figuresSum_2 : decode cX11_figuresSum 2 = .ok (.iload_n 0, 1) := by decide +kernel
theorem dX11_figuresSum_3 : decode cX11_figuresSum 3 = .ok (.istore_n 2, 1) := by decide +kernel
theorem dX11_figuresSum_4 : decode cX11_figuresSum 4 = .ok (.iload_n 2, 1) := by decide +kernel
theorem dX11_figuresSum_5 : decode cX11_figuresSum 5 = .ok (.ifCond .le 18, 3) := by decide +kernel
theorem dX11_figuresSum_8 : decode cX11_figuresSum 8 = .ok (.iload_n 1, 1) := by decide +kernel
theorem dX11_figuresSum_9 : decode cX11_figuresSum 9 = .ok (.iload_n 2, 1) := by decide +kernel
theorem dX11_figuresSum_10 : decode cX11_figuresSum 10 = .ok (.bipush 10, 2) := by decide +kernel
theorem dX11_figuresSum_12 : decode cX11_figuresSum 12 = .ok (.irem, 1) := by decide +kernel
theorem dX11_figuresSum_13 : decode cX11_figuresSum 13 = .ok (.iadd, 1) := by decide +kernel
theorem dX11_figuresSum_14 : decode cX11_figuresSum 14 = .ok (.istore_n 1, 1) := by decide +kernel
theorem dX11_figuresSum_15 : decode cX11_figuresSum 15 = .ok (.iload_n 2, 1) := by decide +kernel
theorem dX11_figuresSum_16 : decode cX11_figuresSum 16 = .ok (.bipush 10, 2) := by decide +kernel
theorem dX11_figuresSum_18 : decode cX11_figuresSum 18 = .ok (.idiv, 1) := by decide +kernel
theorem dX11_figuresSum_19 : decode cX11_figuresSum 19 = .ok (.istore_n 2, 1) := by decide +kernel
theorem dX11_figuresSum_20 : decode cX11_figuresSum 20 = .ok (.goto (-16), 3) := by decide +kernel
theorem dX11_figuresSum_23 : decode cX11_figuresSum 23 = .ok (.iload_n 1, 1) := by decide +kernel
theorem dX11_figuresSum_24 : decode cX11_figuresSum 24 = .ok (.ireturn, 1) := by decide +kernel
theorem dX11_taxesBy_0 : decode cX11_taxesBy 0 = .ok (.aload_n 0, 1) := by decide +kernel
theorem dX11_taxesBy_1 : decode cX11_taxesBy 1 = .ok (.invokevirtual 164, 3) := by decide +kernel
theorem dX11_taxesBy_4 : decode cX11_taxesBy 4 = .ok (.iload_n 1, 1) := by decide +kernel
theorem dX11_taxesBy_5 : decode cX11_taxesBy 5 = .ok (.istore_n 2, 1) := by decide +kernel
theorem dX11_taxesBy_6 : decode cX11_taxesBy 6 = .ok (.aload_n 0, 1) := by decide +kernel
theorem dX11_taxesBy_7 : decode cX11_taxesBy 7 = .ok (.getfield 56, 3) := by decide +kernel
theorem dX11_taxesBy_10 : decode cX11_taxesBy 10 = .ok (.iconst 1, 1) := by decide +kernel
theorem dX11_taxesBy_11 : decode cX11_taxesBy 11 = .ok (.isub, 1) := by decide +kernel
theorem dX11_taxesBy_12 : decode cX11_taxesBy 12 = .ok (.istore_n 3, 1) := by decide +kernel
theorem dX11_taxesBy_13 : decode cX11_taxesBy 13 = .ok (.iload_n 3, 1) := by decide +kernel
theorem dX11_taxesBy_14 : decode cX11_taxesBy 14 = .ok (.ifCond .lt 48, 3) := by decide +kernel
theorem dX11_taxesBy_17 : decode cX11_taxesBy 17 = .ok (.iload_n 2, 1) := by decide +kernel
theorem dX11_taxesBy_18 : decode cX11_taxesBy 18 = .ok (.bipush 10, 2) := by decide +kernel
theorem dX11_taxesBy_20 : decode cX11_taxesBy 20 = .ok (.irem, 1) := by decide +kernel
theorem dX11_taxesBy_21 : decode cX11_taxesBy 21 = .ok (.istore 4, 2) := by decide +kernel
theorem dX11_taxesBy_23 : decode cX11_taxesBy 23 = .ok (.iload 4, 2) := by decide +kernel
theorem dX11_taxesBy_25 : decode cX11_taxesBy 25 = .ok (.aload_n 0, 1) := by decide +kernel
theorem dX11_taxesBy_26 : decode cX11_taxesBy 26 = .ok (.iconst 1, 1) := by decide +kernel
theorem dX11_taxesBy_27 : decode cX11_taxesBy 27 = .ok (.iload_n 3, 1) := by decide +kernel
theorem dX11_taxesBy_28 : decode cX11_taxesBy 28 = .ok (.invokevirtual 142, 3) := by decide +kernel
theorem dX11_taxesBy_31 : decode cX11_taxesBy 31 = .ok (.if_icmp .le 6, 3) := by decide +kernel
theorem dX11_taxesBy_34 : decode cX11_taxesBy 34 = .ok (.bipush (-9), 2) := by decide +kernel
theorem dX11_taxesBy_36 : decode cX11_taxesBy 36 = .ok (.ireturn, 1) := by decide +kernel
theorem dX11_taxesBy_37 : decode cX11_taxesBy 37 = .ok (.iload 4, 2) := by decide +kernel
theorem dX11_taxesBy_39 : decode cX11_taxesBy 39 = .ok (.ifCond .le 12, 3) := by decide +kernel
theorem dX11_taxesBy_42 : decode cX11_taxesBy 42 = .ok (.aload_n 0, 1) := by decide +kernel
theorem dX11_taxesBy_43 : decode cX11_taxesBy 43 = .ok (.iconst 1, 1) := by decide +kernel
theorem dX11_taxesBy_44 : decode cX11_taxesBy 44 = .ok (.iload_n 3, 1) := by decide +kernel
theorem dX11_taxesBy_45 : decode cX11_taxesBy 45 = .ok (.iload 4, 2) := by decide +kernel
theorem dX11_taxesBy_47 : decode cX11_taxesBy 47 = .ok (.invokevirtual 148, 3) := by decide +kernel
theorem dX11_taxesBy_50 : decode cX11_taxesBy 50 = .ok (.pop, 1) := by decide +kernel
theorem dX11_taxesBy_51 : decode cX11_taxesBy 51 = .ok (.iload_n 2, 1) := by decide +kernel
theorem dX11_taxesBy_52 : decode cX11_taxesBy 52 = .ok (.bipush 10, 2) := by decide +kernel
theorem dX11_taxesBy_54 : decode cX11_taxesBy 54 = .ok (.idiv, 1) := by decide +kernel
theorem dX11_taxesBy_55 : decode cX11_taxesBy 55 = .ok (.istore_n 2, 1) := by decide +kernel
theorem dX11_taxesBy_56 : decode cX11_taxesBy 56 = .ok (.iinc 3 (-1), 3) := by decide +kernel
theorem dX11_taxesBy_59 : decode cX11_taxesBy 59 = .ok (.goto (-46), 3) := by decide +kernel
theorem dX11_taxesBy_62 : decode cX11_taxesBy 62 = .ok (.aload_n 0, 1) := by decide +kernel
theorem dX11_taxesBy_63 : decode cX11_taxesBy 63 = .ok (.iconst 1, 1) := by decide +kernel
theorem dX11_taxesBy_64 : decode cX11_taxesBy 64 = .ok (.bipush 15, 2) := by decide +kernel
theorem dX11_taxesBy_66 : decode cX11_taxesBy 66 = .ok (.invokevirtual 167, 3) := by decide +kernel
theorem dX11_taxesBy_69 : decode cX11_taxesBy 69 = .ok (.aload_n 0, 1) := by decide +kernel
theorem dX11_taxesBy_70 : decode cX11_taxesBy 70 = .ok (.iconst 1, 1) := by decide +kernel
theorem dX11_taxesBy_71 : decode cX11_taxesBy 71 = .ok (.invokevirtual 161, 3) := by decide +kernel
theorem dX11_taxesBy_74 : decode cX11_taxesBy 74 = .ok (.ireturn, 1) := by decide +kernel
theorem dX11_pouring_0 : decode cX11_pouring 0 = .ok (.iload_n 1, 1) := by decide +kernel
theorem dX11_pouring_1 : decode cX11_pouring 1 = .ok (.i2l, 1) := by decide +kernel
theorem dX11_pouring_2 : decode cX11_pouring 2 = .ok (.lconst 0, 1) := by decide +kernel
theorem dX11_pouring_3 : decode cX11_pouring 3 = .ok (.ldc2_w 75, 3) := by decide +kernel
theorem dX11_pouring_6 : decode cX11_pouring 6 = .ok (.invokestatic 62, 3) := by decide +kernel
theorem dX11_pouring_9 : decode cX11_pouring 9 = .ok (.ifCond .ne 6, 3) := by decide +kernel
theorem dX11_pouring_12 : decode cX11_pouring 12 = .ok (.bipush (-2), 2) := by decide +kernel
theorem dX11_pouring_14 : decode cX11_pouring 14 = .ok (.ireturn, 1) := by decide +kernel
theorem dX11_pouring_15 : decode cX11_pouring 15 = .ok (.bipush (-9), 2) := by decide +kernel
theorem dX11_pouring_17 : decode cX11_pouring 17 = .ok (.istore_n 3, 1) := by decide +kernel
theorem dX11_pouring_18 : decode cX11_pouring 18 = .ok (.bipush (-9), 2) := by decide +kernel
theorem dX11_pouring_20 : decode cX11_pouring 20 = .ok (.istore 4, 2) := by decide +kernel
theorem dX11_pouring_22 : decode cX11_pouring 22 = .ok (.iload_n 1, 1) := by decide +kernel
theorem dX11_pouring_23 : decode cX11_pouring 23 = .ok (.istore 5, 2) := by decide +kernel
theorem dX11_pouring_25 : decode cX11_pouring 25 = .ok (.iload 5, 2) := by decide +kernel
theorem dX11_pouring_27 : decode cX11_pouring 27 = .ok (.aload_n 0, 1) := by decide +kernel
theorem dX11_pouring_28 : decode cX11_pouring 28 = .ok (.getfield 56, 3) := by decide +kernel
theorem dX11_pouring_31 : decode cX11_pouring 31 = .ok (.invokestatic 174, 3) := by decide +kernel
theorem dX11_pouring_34 : decode cX11_pouring 34 = .ok (.if_icmp .ge 83, 3) := by decide +kernel
theorem dX11_pouring_37 : decode cX11_pouring 37 = .ok (.iload 5, 2) := by decide +kernel
theorem dX11_pouring_39 : decode cX11_pouring 39 = .ok (.invokestatic 177, 3) := by decide +kernel
theorem dX11_pouring_42 : decode cX11_pouring 42 = .ok (.iload_n 1, 1) := by decide +kernel
theorem dX11_pouring_43 : decode cX11_pouring 43 = .ok (.if_icmp .ne 12, 3) := by decide +kernel
theorem dX11_pouring_46 : decode cX11_pouring 46 = .ok (.aload_n 0, 1) := by decide +kernel
theorem dX11_pouring_47 : decode cX11_pouring 47 = .ok (.iload 5, 2) := by decide +kernel
theorem dX11_pouring_49 : decode cX11_pouring 49 = .ok (.invokevirtual 180, 3) := by decide +kernel
theorem dX11_pouring_52 : decode cX11_pouring 52 = .ok (.goto 5, 3) := by decide +kernel
theorem dX11_pouring_55 : decode cX11_pouring 55 = .ok (.bipush (-9), 2) := by decide +kernel
theorem dX11_pouring_57 : decode cX11_pouring 57 = .ok (.istore 6, 2) := by decide +kernel
theorem dX11_pouring_59 : decode cX11_pouring 59 = .ok (.iload 6, 2) := by decide +kernel
theorem dX11_pouring_61 : decode cX11_pouring 61 = .ok (.bipush (-9), 2) := by decide +kernel
theorem dX11_pouring_63 : decode cX11_pouring 63 = .ok (.if_icmp .eq 19, 3) := by decide +kernel
theorem dX11_pouring_66 : decode cX11_pouring 66 = .ok (.iload_n 3, 1) := by decide +kernel
theorem dX11_pouring_67 : decode cX11_pouring 67 = .ok (.bipush (-9), 2) := by decide +kernel
theorem dX11_pouring_69 : decode cX11_pouring 69 = .ok (.if_icmp .eq 9, 3) := by decide +kernel
theorem dX11_pouring_72 : decode cX11_pouring 72 = .ok (.iload 6, 2) := by decide +kernel
theorem dX11_pouring_74 : decode cX11_pouring 74 = .ok (.iload_n 3, 1) := by decide +kernel
theorem dX11_pouring_75 : decode cX11_pouring 75 = .ok (.if_icmp .ge 7, 3) := by decide +kernel
theorem dX11_pouring_78 : decode cX11_pouring 78 = .ok (.iconst 1, 1) := by decide +kernel
theorem dX11_pouring_79 : decode cX11_pouring 79 = .ok (.goto 4, 3) := by decide +kernel
theorem dX11_pouring_82 : decode cX11_pouring 82 = .ok (.iconst 0, 1) := by decide +kernel
theorem dX11_pouring_83 : decode cX11_pouring 83 = .ok (.istore 7, 2) := by decide +kernel
theorem dX11_pouring_85 : decode cX11_pouring 85 = .ok (.iload 7, 2) := by decide +kernel
theorem dX11_pouring_87 : decode cX11_pouring 87 = .ok (.ifCond .eq 8, 3) := by decide +kernel
theorem dX11_pouring_90 : decode cX11_pouring 90 = .ok (.iload 5, 2) := by decide +kernel
theorem dX11_pouring_92 : decode cX11_pouring 92 = .ok (.goto 5, 3) := by decide +kernel
theorem dX11_pouring_95 : decode cX11_pouring 95 = .ok (.iload 4, 2) := by decide +kernel
theorem dX11_pouring_97 : decode cX11_pouring 97 = .ok (.istore 4, 2) := by decide +kernel
theorem dX11_pouring_99 : decode cX11_pouring 99 = .ok (.iload 7, 2) := by decide +kernel
theorem dX11_pouring_101 : decode cX11_pouring 101 = .ok (.ifCond .eq 8, 3) := by decide +kernel
theorem dX11_pouring_104 : decode cX11_pouring 104 = .ok (.iload 6, 2) := by decide +kernel
theorem dX11_pouring_106 : decode cX11_pouring 106 = .ok (.goto 4, 3) := by decide +kernel
theorem dX11_pouring_109 : decode cX11_pouring 109 = .ok (.iload_n 3, 1) := by decide +kernel
theorem dX11_pouring_110 : decode cX11_pouring 110 = .ok (.istore_n 3, 1) := by decide +kernel
theorem dX11_pouring_111 : decode cX11_pouring 111 = .ok (.iinc 5 9, 3) := by decide +kernel
theorem dX11_pouring_114 : decode cX11_pouring 114 = .ok (.goto (-89), 3) := by decide +kernel
theorem dX11_pouring_117 : decode cX11_pouring 117 = .ok (.iload_n 2, 1) := by decide +kernel
theorem dX11_pouring_118 : decode cX11_pouring 118 = .ok (.ifCond .eq 8, 3) := by decide +kernel
theorem dX11_pouring_121 : decode cX11_pouring 121 = .ok (.iload 4, 2) := by decide +kernel
theorem dX11_pouring_123 : decode cX11_pouring 123 = .ok (.goto 4, 3) := by decide +kernel
theorem dX11_pouring_126 : decode cX11_pouring 126 = .ok (.iload_n 3, 1) := by decide +kernel
theorem dX11_pouring_127 : decode cX11_pouring 127 = .ok (.ireturn, 1) := by decide +kernel
theorem dX11_wake_0 : decode cX11_wake 0 = .ok (.bipush (-9), 2) := by decide +kernel
theorem dX11_wake_2 : decode cX11_wake 2 = .ok (.istore_n 1, 1) := by decide +kernel
theorem dX11_wake_3 : decode cX11_wake 3 = .ok (.iconst 0, 1) := by decide +kernel
theorem dX11_wake_4 : decode cX11_wake 4 = .ok (.istore_n 2, 1) := by decide +kernel
theorem dX11_wake_5 : decode cX11_wake 5 = .ok (.iload_n 2, 1) := by decide +kernel
theorem dX11_wake_6 : decode cX11_wake 6 = .ok (.iconst 1, 1) := by decide +kernel
theorem dX11_wake_7 : decode cX11_wake 7 = .ok (.aload_n 0, 1) := by decide +kernel
theorem dX11_wake_8 : decode cX11_wake 8 = .ok (.getfield 56, 3) := by decide +kernel
theorem dX11_wake_11 : decode cX11_wake 11 = .ok (.ishl, 1) := by decide +kernel
theorem dX11_wake_12 : decode cX11_wake 12 = .ok (.if_icmp .ge 105, 3) := by decide +kernel
theorem dX11_wake_15 : decode cX11_wake 15 = .ok (.iload_n 1, 1) := by decide +kernel
theorem dX11_wake_16 : decode cX11_wake 16 = .ok (.bipush (-9), 2) := by decide +kernel
theorem dX11_wake_18 : decode cX11_wake 18 = .ok (.if_icmp .eq 14, 3) := by decide +kernel
theorem dX11_wake_21 : decode cX11_wake 21 = .ok (.iload_n 2, 1) := by decide +kernel
theorem dX11_wake_22 : decode cX11_wake 22 = .ok (.invokestatic 183, 3) := by decide +kernel
theorem dX11_wake_25 : decode cX11_wake 25 = .ok (.iload_n 1, 1) := by decide +kernel
theorem dX11_wake_26 : decode cX11_wake 26 = .ok (.invokestatic 183, 3) := by decide +kernel
theorem dX11_wake_29 : decode cX11_wake 29 = .ok (.if_icmp .ge 82, 3) := by decide +kernel
theorem dX11_wake_32 : decode cX11_wake 32 = .ok (.aload_n 0, 1) := by decide +kernel
theorem dX11_wake_33 : decode cX11_wake 33 = .ok (.invokevirtual 164, 3) := by decide +kernel
theorem dX11_wake_36 : decode cX11_wake 36 = .ok (.iconst 0, 1) := by decide +kernel
theorem dX11_wake_37 : decode cX11_wake 37 = .ok (.istore_n 3, 1) := by decide +kernel
theorem dX11_wake_38 : decode cX11_wake 38 = .ok (.iload_n 3, 1) := by decide +kernel
theorem dX11_wake_39 : decode cX11_wake 39 = .ok (.aload_n 0, 1) := by decide +kernel
theorem dX11_wake_40 : decode cX11_wake 40 = .ok (.getfield 56, 3) := by decide +kernel
theorem dX11_wake_43 : decode cX11_wake 43 = .ok (.if_icmp .ge 46, 3) := by decide +kernel
theorem dX11_wake_46 : decode cX11_wake 46 = .ok (.aload_n 0, 1) := by decide +kernel
theorem dX11_wake_47 : decode cX11_wake 47 = .ok (.getfield 22, 3) := by decide +kernel
theorem dX11_wake_50 : decode cX11_wake 50 = .ok (.bipush 15, 2) := by decide +kernel
theorem dX11_wake_52 : decode cX11_wake 52 = .ok (.iload_n 3, 1) := by decide +kernel
theorem dX11_wake_53 : decode cX11_wake 53 = .ok (.iadd, 1) := by decide +kernel
theorem dX11_wake_54 : decode cX11_wake 54 = .ok (.iload_n 2, 1) := by decide +kernel
theorem dX11_wake_55 : decode cX11_wake 55 = .ok (.iload_n 3, 1) := by decide +kernel
theorem dX11_wake_56 : decode cX11_wake 56 = .ok (.invokestatic 77, 3) := by decide +kernel
theorem dX11_wake_59 : decode cX11_wake 59 = .ok (.ifCond .eq 12, 3) := by decide +kernel
theorem dX11_wake_62 : decode cX11_wake 62 = .ok (.aload_n 0, 1) := by decide +kernel
theorem dX11_wake_63 : decode cX11_wake 63 = .ok (.getfield 7, 3) := by decide +kernel
theorem dX11_wake_66 : decode cX11_wake 66 = .ok (.iload_n 3, 1) := by decide +kernel
theorem dX11_wake_67 : decode cX11_wake 67 = .ok (.iaload, 1) := by decide +kernel
theorem dX11_wake_68 : decode cX11_wake 68 = .ok (.goto 4, 3) := by decide +kernel
theorem dX11_wake_71 : decode cX11_wake 71 = .ok (.iconst 0, 1) := by decide +kernel
theorem dX11_wake_72 : decode cX11_wake 72 = .ok (.iastore, 1) := by decide +kernel
theorem dX11_wake_73 : decode cX11_wake 73 = .ok (.aload_n 0, 1) := by decide +kernel
theorem dX11_wake_74 : decode cX11_wake 74 = .ok (.getfield 22, 3) := by decide +kernel
theorem dX11_wake_77 : decode cX11_wake 77 = .ok (.bipush 20, 2) := by decide +kernel
theorem dX11_wake_79 : decode cX11_wake 79 = .ok (.iload_n 3, 1) := by decide +kernel
theorem dX11_wake_80 : decode cX11_wake 80 = .ok (.iadd, 1) := by decide +kernel
theorem dX11_wake_81 : decode cX11_wake 81 = .ok (.iconst 0, 1) := by decide +kernel
theorem dX11_wake_82 : decode cX11_wake 82 = .ok (.iastore, 1) := by decide +kernel
theorem dX11_wake_83 : decode cX11_wake 83 = .ok (.iinc 3 1, 3) := by decide +kernel
theorem dX11_wake_86 : decode cX11_wake 86 = .ok (.goto (-48), 3) := by decide +kernel
theorem dX11_wake_89 : decode cX11_wake 89 = .ok (.aload_n 0, 1) := by decide +kernel
theorem dX11_wake_90 : decode cX11_wake 90 = .ok (.iconst 1, 1) := by decide +kernel
theorem dX11_wake_91 : decode cX11_wake 91 = .ok (.bipush 15, 2) := by decide +kernel
theorem dX11_wake_93 : decode cX11_wake 93 = .ok (.invokevirtual 167, 3) := by decide +kernel
theorem dX11_wake_96 : decode cX11_wake 96 = .ok (.aload_n 0, 1) := by decide +kernel
theorem dX11_wake_97 : decode cX11_wake 97 = .ok (.iconst 1, 1) := by decide +kernel
theorem dX11_wake_98 : decode cX11_wake 98 = .ok (.iconst 0, 1) := by decide +kernel
theorem dX11_wake_99 : decode cX11_wake 99 = .ok (.invokevirtual 170, 3) := by decide +kernel
theorem dX11_wake_102 : decode cX11_wake 102 = .ok (.ifCond .ne 7, 3) := by decide +kernel
theorem dX11_wake_105 : decode cX11_wake 105 = .ok (.iload_n 2, 1) := by decide +kernel
theorem dX11_wake_106 : decode cX11_wake 106 = .ok (.goto 4, 3) := by decide +kernel
theorem dX11_wake_109 : decode cX11_wake 109 = .ok (.iload_n 1, 1) := by decide +kernel
theorem dX11_wake_110 : decode cX11_wake 110 = .ok (.istore_n 1, 1) := by decide +kernel
theorem dX11_wake_111 : decode cX11_wake 111 = .ok (.iinc 2 1, 3) := by decide +kernel
theorem dX11_wake_114 : decode cX11_wake 114 = .ok (.goto (-109), 3) := by decide +kernel
theorem dX11_wake_117 : decode cX11_wake 117 = .ok (.iload_n 1, 1) := by decide +kernel
theorem dX11_wake_118 : decode cX11_wake 118 = .ok (.ireturn, 1) := by decide +kernel
theorem dX11_thirstBy_0 : decode cX11_thirstBy 0 = .ok (.aload_n 0, 1) := by decide +kernel
theorem dX11_thirstBy_1 : decode cX11_thirstBy 1 = .ok (.invokevirtual 164, 3) := by decide +kernel
theorem dX11_thirstBy_4 : decode cX11_thirstBy 4 = .ok (.iconst 0, 1) := by decide +kernel
theorem dX11_thirstBy_5 : decode cX11_thirstBy 5 = .ok (.istore_n 2, 1) := by decide +kernel
theorem dX11_thirstBy_6 : decode cX11_thirstBy 6 = .ok (.aload_n 0, 1) := by decide +kernel
theorem dX11_thirstBy_7 : decode cX11_thirstBy 7 = .ok (.getfield 105, 3) := by decide +kernel
theorem dX11_thirstBy_10 : decode cX11_thirstBy 10 = .ok (.iconst 1, 1) := by decide +kernel
theorem dX11_thirstBy_11 : decode cX11_thirstBy 11 = .ok (.isub, 1) := by decide +kernel
theorem dX11_thirstBy_12 : decode cX11_thirstBy 12 = .ok (.istore_n 3, 1) := by decide +kernel
theorem dX11_thirstBy_13 : decode cX11_thirstBy 13 = .ok (.iload_n 3, 1) := by decide +kernel
theorem dX11_thirstBy_14 : decode cX11_thirstBy 14 = .ok (.ifCond .lt 57, 3) := by decide +kernel
theorem dX11_thirstBy_17 : decode cX11_thirstBy 17 = .ok (.iload_n 1, 1) := by decide +kernel
theorem dX11_thirstBy_18 : decode cX11_thirstBy 18 = .ok (.iload_n 3, 1) := by decide +kernel
theorem dX11_thirstBy_19 : decode cX11_thirstBy 19 = .ok (.invokestatic 174, 3) := by decide +kernel
theorem dX11_thirstBy_22 : decode cX11_thirstBy 22 = .ok (.idiv, 1) := by decide +kernel
theorem dX11_thirstBy_23 : decode cX11_thirstBy 23 = .ok (.bipush 10, 2) := by decide +kernel
theorem dX11_thirstBy_25 : decode cX11_thirstBy 25 = .ok (.irem, 1) := by decide +kernel
theorem dX11_thirstBy_26 : decode cX11_thirstBy 26 = .ok (.iconst 1, 1) := by decide +kernel
theorem dX11_thirstBy_27 : decode cX11_thirstBy 27 = .ok (.isub, 1) := by decide +kernel
theorem dX11_thirstBy_28 : decode cX11_thirstBy 28 = .ok (.istore 4, 2) := by decide +kernel
theorem dX11_thirstBy_30 : decode cX11_thirstBy 30 = .ok (.aload_n 0, 1) := by decide +kernel
theorem dX11_thirstBy_31 : decode cX11_thirstBy 31 = .ok (.iload 4, 2) := by decide +kernel
theorem dX11_thirstBy_33 : decode cX11_thirstBy 33 = .ok (.invokevirtual 133, 3) := by decide +kernel
theorem dX11_thirstBy_36 : decode cX11_thirstBy 36 = .ok (.ifCond .eq 12, 3) := by decide +kernel
theorem dX11_thirstBy_39 : decode cX11_thirstBy 39 = .ok (.iload_n 2, 1) := by decide +kernel
theorem dX11_thirstBy_40 : decode cX11_thirstBy 40 = .ok (.iload 4, 2) := by decide +kernel
theorem dX11_thirstBy_42 : decode cX11_thirstBy 42 = .ok (.invokestatic 77, 3) := by decide +kernel
theorem dX11_thirstBy_45 : decode cX11_thirstBy 45 = .ok (.ifCond .eq 6, 3) := by decide +kernel
theorem dX11_thirstBy_48 : decode cX11_thirstBy 48 = .ok (.bipush (-9), 2) := by decide +kernel
theorem dX11_thirstBy_50 : decode cX11_thirstBy 50 = .ok (.ireturn, 1) := by decide +kernel
theorem dX11_thirstBy_51 : decode cX11_thirstBy 51 = .ok (.iload_n 2, 1) := by decide +kernel
theorem dX11_thirstBy_52 : decode cX11_thirstBy 52 = .ok (.iconst 1, 1) := by decide +kernel
theorem dX11_thirstBy_53 : decode cX11_thirstBy 53 = .ok (.iload 4, 2) := by decide +kernel
theorem dX11_thirstBy_55 : decode cX11_thirstBy 55 = .ok (.ishl, 1) := by decide +kernel
theorem dX11_thirstBy_56 : decode cX11_thirstBy 56 = .ok (.ior, 1) := by decide +kernel
theorem dX11_thirstBy_57 : decode cX11_thirstBy 57 = .ok (.istore_n 2, 1) := by decide +kernel
theorem dX11_thirstBy_58 : decode cX11_thirstBy 58 = .ok (.aload_n 0, 1) := by decide +kernel
theorem dX11_thirstBy_59 : decode cX11_thirstBy 59 = .ok (.iconst 1, 1) := by decide +kernel
theorem dX11_thirstBy_60 : decode cX11_thirstBy 60 = .ok (.iload 4, 2) := by decide +kernel
theorem dX11_thirstBy_62 : decode cX11_thirstBy 62 = .ok (.invokevirtual 118, 3) := by decide +kernel
theorem dX11_thirstBy_65 : decode cX11_thirstBy 65 = .ok (.iinc 3 (-1), 3) := by decide +kernel
theorem dX11_thirstBy_68 : decode cX11_thirstBy 68 = .ok (.goto (-55), 3) := by decide +kernel
theorem dX11_thirstBy_71 : decode cX11_thirstBy 71 = .ok (.aload_n 0, 1) := by decide +kernel
theorem dX11_thirstBy_72 : decode cX11_thirstBy 72 = .ok (.iconst 1, 1) := by decide +kernel
theorem dX11_thirstBy_73 : decode cX11_thirstBy 73 = .ok (.iconst 1, 1) := by decide +kernel
theorem dX11_thirstBy_74 : decode cX11_thirstBy 74 = .ok (.invokevirtual 170, 3) := by decide +kernel
theorem dX11_thirstBy_77 : decode cX11_thirstBy 77 = .ok (.ireturn, 1) := by decide +kernel
theorem dX11_order_0 : decode cX11_order 0 = .ok (.bipush (-9), 2) := by decide +kernel
theorem dX11_order_2 : decode cX11_order 2 = .ok (.istore_n 2, 1) := by decide +kernel
theorem dX11_order_3 : decode cX11_order 3 = .ok (.bipush (-9), 2) := by decide +kernel
theorem dX11_order_5 : decode cX11_order 5 = .ok (.istore_n 3, 1) := by decide +kernel
theorem dX11_order_6 : decode cX11_order 6 = .ok (.iconst 0, 1) := by decide +kernel
theorem dX11_order_7 : decode cX11_order 7 = .ok (.istore 4, 2) := by decide +kernel
theorem dX11_order_9 : decode cX11_order 9 = .ok (.iload 4, 2) := by decide +kernel
theorem dX11_order_11 : decode cX11_order 11 = .ok (.aload_n 0, 1) := by decide +kernel
theorem dX11_order_12 : decode cX11_order 12 = .ok (.getfield 105, 3) := by decide +kernel
theorem dX11_order_15 : decode cX11_order 15 = .ok (.invokestatic 174, 3) := by decide +kernel
theorem dX11_order_18 : decode cX11_order 18 = .ok (.if_icmp .ge 67, 3) := by decide +kernel
theorem dX11_order_21 : decode cX11_order 21 = .ok (.aload_n 0, 1) := by decide +kernel
theorem dX11_order_22 : decode cX11_order 22 = .ok (.iload 4, 2) := by decide +kernel
theorem dX11_order_24 : decode cX11_order 24 = .ok (.invokevirtual 186, 3) := by decide +kernel
theorem dX11_order_27 : decode cX11_order 27 = .ok (.istore 5, 2) := by decide +kernel
theorem dX11_order_29 : decode cX11_order 29 = .ok (.iload 5, 2) := by decide +kernel
theorem dX11_order_31 : decode cX11_order 31 = .ok (.bipush (-9), 2) := by decide +kernel
theorem dX11_order_33 : decode cX11_order 33 = .ok (.if_icmp .eq 19, 3) := by decide +kernel
theorem dX11_order_36 : decode cX11_order 36 = .ok (.iload_n 2, 1) := by decide +kernel
theorem dX11_order_37 : decode cX11_order 37 = .ok (.bipush (-9), 2) := by decide +kernel
theorem dX11_order_39 : decode cX11_order 39 = .ok (.if_icmp .eq 9, 3) := by decide +kernel
theorem dX11_order_42 : decode cX11_order 42 = .ok (.iload 5, 2) := by decide +kernel
theorem dX11_order_44 : decode cX11_order 44 = .ok (.iload_n 2, 1) := by decide +kernel
theorem dX11_order_45 : decode cX11_order 45 = .ok (.if_icmp .ge 7, 3) := by decide +kernel
theorem dX11_order_48 : decode cX11_order 48 = .ok (.iconst 1, 1) := by decide +kernel
theorem dX11_order_49 : decode cX11_order 49 = .ok (.goto 4, 3) := by decide +kernel
theorem dX11_order_52 : decode cX11_order 52 = .ok (.iconst 0, 1) := by decide +kernel
theorem dX11_order_53 : decode cX11_order 53 = .ok (.istore 6, 2) := by decide +kernel
theorem dX11_order_55 : decode cX11_order 55 = .ok (.iload 6, 2) := by decide +kernel
theorem dX11_order_57 : decode cX11_order 57 = .ok (.ifCond .eq 8, 3) := by decide +kernel
theorem dX11_order_60 : decode cX11_order 60 = .ok (.iload 4, 2) := by decide +kernel
theorem dX11_order_62 : decode cX11_order 62 = .ok (.goto 4, 3) := by decide +kernel
theorem dX11_order_65 : decode cX11_order 65 = .ok (.iload_n 3, 1) := by decide +kernel
theorem dX11_order_66 : decode cX11_order 66 = .ok (.istore_n 3, 1) := by decide +kernel
theorem dX11_order_67 : decode cX11_order 67 = .ok (.iload 6, 2) := by decide +kernel
theorem dX11_order_69 : decode cX11_order 69 = .ok (.ifCond .eq 8, 3) := by decide +kernel
theorem dX11_order_72 : decode cX11_order 72 = .ok (.iload 5, 2) := by decide +kernel
theorem dX11_order_74 : decode cX11_order 74 = .ok (.goto 4, 3) := by decide +kernel
theorem dX11_order_77 : decode cX11_order 77 = .ok (.iload_n 2, 1) := by decide +kernel
theorem dX11_order_78 : decode cX11_order 78 = .ok (.istore_n 2, 1) := by decide +kernel
theorem dX11_order_79 : decode cX11_order 79 = .ok (.iinc 4 1, 3) := by decide +kernel
theorem dX11_order_82 : decode cX11_order 82 = .ok (.goto (-73), 3) := by decide +kernel
theorem dX11_order_85 : decode cX11_order 85 = .ok (.iload_n 1, 1) := by decide +kernel
theorem dX11_order_86 : decode cX11_order 86 = .ok (.ifCond .eq 7, 3) := by decide +kernel
theorem dX11_order_89 : decode cX11_order 89 = .ok (.iload_n 3, 1) := by decide +kernel
theorem dX11_order_90 : decode cX11_order 90 = .ok (.goto 4, 3) := by decide +kernel
theorem dX11_order_93 : decode cX11_order 93 = .ok (.iload_n 2, 1) := by decide +kernel
theorem dX11_order_94 : decode cX11_order 94 = .ok (.ireturn, 1) := by decide +kernel
theorem dX11_hall_0 : decode cX11_hall 0 = .ok (.iload_n 1, 1) := by decide +kernel
theorem dX11_hall_1 : decode cX11_hall 1 = .ok (.i2l, 1) := by decide +kernel
theorem dX11_hall_2 : decode cX11_hall 2 = .ok (.lconst 0, 1) := by decide +kernel
theorem dX11_hall_3 : decode cX11_hall 3 = .ok (.ldc2_w 75, 3) := by decide +kernel
theorem dX11_hall_6 : decode cX11_hall 6 = .ok (.invokestatic 62, 3) := by decide +kernel
theorem dX11_hall_9 : decode cX11_hall 9 = .ok (.ifCond .ne 6, 3) := by decide +kernel
theorem dX11_hall_12 : decode cX11_hall 12 = .ok (.bipush (-2), 2) := by decide +kernel
theorem dX11_hall_14 : decode cX11_hall 14 = .ok (.ireturn, 1) := by decide +kernel
theorem dX11_hall_15 : decode cX11_hall 15 = .ok (.aload_n 0, 1) := by decide +kernel
theorem dX11_hall_16 : decode cX11_hall 16 = .ok (.invokevirtual 164, 3) := by decide +kernel
theorem dX11_hall_19 : decode cX11_hall 19 = .ok (.iconst 0, 1) := by decide +kernel
theorem dX11_hall_20 : decode cX11_hall 20 = .ok (.istore_n 2, 1) := by decide +kernel
theorem dX11_hall_21 : decode cX11_hall 21 = .ok (.iload_n 2, 1) := by decide +kernel
theorem dX11_hall_22 : decode cX11_hall 22 = .ok (.iload_n 1, 1) := by decide +kernel
theorem dX11_hall_23 : decode cX11_hall 23 = .ok (.if_icmp .ge 14, 3) := by decide +kernel
theorem dX11_hall_26 : decode cX11_hall 26 = .ok (.aload_n 0, 1) := by decide +kernel
theorem dX11_hall_27 : decode cX11_hall 27 = .ok (.iconst 1, 1) := by decide +kernel
theorem dX11_hall_28 : decode cX11_hall 28 = .ok (.invokevirtual 158, 3) := by decide +kernel
theorem dX11_hall_31 : decode cX11_hall 31 = .ok (.iinc 2 1, 3) := by decide +kernel
theorem dX11_hall_34 : decode cX11_hall 34 = .ok (.goto (-13), 3) := by decide +kernel
theorem dX11_hall_37 : decode cX11_hall 37 = .ok (.aload_n 0, 1) := by decide +kernel
theorem dX11_hall_38 : decode cX11_hall 38 = .ok (.iconst 1, 1) := by decide +kernel
theorem dX11_hall_39 : decode cX11_hall 39 = .ok (.invokevirtual 161, 3) := by decide +kernel
theorem dX11_hall_42 : decode cX11_hall 42 = .ok (.ireturn, 1) := by decide +kernel
theorem dX11_tryThing_0 : decode cX11_tryThing 0 = .ok (.iload_n 1, 1) := by decide +kernel
theorem dX11_tryThing_1 : decode cX11_tryThing 1 = .ok (.tableswitch 171 0 3 #[31, 75, 127, 152], 31) := by decide +kernel
theorem dX11_tryThing_32 : decode cX11_tryThing 32 = .ok (.aload_n 0, 1) := by decide +kernel
theorem dX11_tryThing_33 : decode cX11_tryThing 33 = .ok (.iload_n 2, 1) := by decide +kernel
theorem dX11_tryThing_34 : decode cX11_tryThing 34 = .ok (.invokevirtual 126, 3) := by decide +kernel
theorem dX11_tryThing_37 : decode cX11_tryThing 37 = .ok (.ifCond .eq 20, 3) := by decide +kernel
theorem dX11_tryThing_40 : decode cX11_tryThing 40 = .ok (.iload_n 3, 1) := by decide +kernel
theorem dX11_tryThing_41 : decode cX11_tryThing 41 = .ok (.ifCond .le 16, 3) := by decide +kernel
theorem dX11_tryThing_44 : decode cX11_tryThing 44 = .ok (.aload_n 0, 1) := by decide +kernel
theorem dX11_tryThing_45 : decode cX11_tryThing 45 = .ok (.iconst 1, 1) := by decide +kernel
theorem dX11_tryThing_46 : decode cX11_tryThing 46 = .ok (.iload_n 2, 1) := by decide +kernel
theorem dX11_tryThing_47 : decode cX11_tryThing 47 = .ok (.invokevirtual 142, 3) := by decide +kernel
theorem dX11_tryThing_50 : decode cX11_tryThing 50 = .ok (.ifCond .le 7, 3) := by decide +kernel
theorem dX11_tryThing_53 : decode cX11_tryThing 53 = .ok (.iconst 1, 1) := by decide +kernel
theorem dX11_tryThing_54 : decode cX11_tryThing 54 = .ok (.goto 4, 3) := by decide +kernel
theorem dX11_tryThing_57 : decode cX11_tryThing 57 = .ok (.iconst 0, 1) := by decide +kernel
theorem dX11_tryThing_58 : decode cX11_tryThing 58 = .ok (.istore 4, 2) := by decide +kernel
theorem dX11_tryThing_60 : decode cX11_tryThing 60 = .ok (.iload 4, 2) := by decide +kernel
theorem dX11_tryThing_62 : decode cX11_tryThing 62 = .ok (.ifCond .eq 11, 3) := by decide +kernel
theorem dX11_tryThing_65 : decode cX11_tryThing 65 = .ok (.aload_n 0, 1) := by decide +kernel
theorem dX11_tryThing_66 : decode cX11_tryThing 66 = .ok (.iconst 1, 1) := by decide +kernel
theorem dX11_tryThing_67 : decode cX11_tryThing 67 = .ok (.iload_n 2, 1) := by decide +kernel
theorem dX11_tryThing_68 : decode cX11_tryThing 68 = .ok (.iload_n 3, 1) := by decide +kernel
theorem dX11_tryThing_69 : decode cX11_tryThing 69 = .ok (.invokevirtual 148, 3) := by decide +kernel
theorem dX11_tryThing_72 : decode cX11_tryThing 72 = .ok (.pop, 1) := by decide +kernel
theorem dX11_tryThing_73 : decode cX11_tryThing 73 = .ok (.iload 4, 2) := by decide +kernel
theorem dX11_tryThing_75 : decode cX11_tryThing 75 = .ok (.ireturn, 1) := by decide +kernel
theorem dX11_tryThing_76 : decode cX11_tryThing 76 = .ok (.aload_n 0, 1) := by decide +kernel
theorem dX11_tryThing_77 : decode cX11_tryThing 77 = .ok (.iload_n 2, 1) := by decide +kernel
theorem dX11_tryThing_78 : decode cX11_tryThing 78 = .ok (.invokevirtual 133, 3) := by decide +kernel
theorem dX11_tryThing_81 : decode cX11_tryThing 81 = .ok (.ifCond .eq 28, 3) := by decide +kernel
theorem dX11_tryThing_84 : decode cX11_tryThing 84 = .ok (.aload_n 0, 1) := by decide +kernel
theorem dX11_tryThing_85 : decode cX11_tryThing 85 = .ok (.iload_n 3, 1) := by decide +kernel
theorem dX11_tryThing_86 : decode cX11_tryThing 86 = .ok (.invokevirtual 126, 3) := by decide +kernel
theorem dX11_tryThing_89 : decode cX11_tryThing 89 = .ok (.ifCond .eq 20, 3) := by decide +kernel
theorem dX11_tryThing_92 : decode cX11_tryThing 92 = .ok (.aload_n 0, 1) := by decide +kernel
theorem dX11_tryThing_93 : decode cX11_tryThing 93 = .ok (.getfield 19, 3) := by decide +kernel
theorem dX11_tryThing_96 : decode cX11_tryThing 96 = .ok (.iload_n 2, 1) := by decide +kernel
theorem dX11_tryThing_97 : decode cX11_tryThing 97 = .ok (.iaload, 1) := by decide +kernel
theorem dX11_tryThing_98 : decode cX11_tryThing 98 = .ok (.iload_n 3, 1) := by decide +kernel
theorem dX11_tryThing_99 : decode cX11_tryThing 99 = .ok (.invokestatic 77, 3) := by decide +kernel
theorem dX11_tryThing_102 : decode cX11_tryThing 102 = .ok (.ifCond .eq 7, 3) := by decide +kernel
theorem dX11_tryThing_105 : decode cX11_tryThing 105 = .ok (.iconst 1, 1) := by decide +kernel
theorem dX11_tryThing_106 : decode cX11_tryThing 106 = .ok (.goto 4, 3) := by decide +kernel
theorem dX11_tryThing_109 : decode cX11_tryThing 109 = .ok (.iconst 0, 1) := by decide +kernel
theorem dX11_tryThing_110 : decode cX11_tryThing 110 = .ok (.istore 5, 2) := by decide +kernel
theorem dX11_tryThing_112 : decode cX11_tryThing 112 = .ok (.iload 5, 2) := by decide +kernel
theorem dX11_tryThing_114 : decode cX11_tryThing 114 = .ok (.ifCond .eq 11, 3) := by decide +kernel
theorem dX11_tryThing_117 : decode cX11_tryThing 117 = .ok (.aload_n 0, 1) := by decide +kernel
theorem dX11_tryThing_118 : decode cX11_tryThing 118 = .ok (.iconst 1, 1) := by decide +kernel
theorem dX11_tryThing_119 : decode cX11_tryThing 119 = .ok (.iload_n 2, 1) := by decide +kernel
theorem dX11_tryThing_120 : decode cX11_tryThing 120 = .ok (.iload_n 3, 1) := by decide +kernel
theorem dX11_tryThing_121 : decode cX11_tryThing 121 = .ok (.invokevirtual 115, 3) := by decide +kernel
theorem dX11_tryThing_124 : decode cX11_tryThing 124 = .ok (.pop, 1) := by decide +kernel
theorem dX11_tryThing_125 : decode cX11_tryThing 125 = .ok (.iload 5, 2) := by decide +kernel
theorem dX11_tryThing_127 : decode cX11_tryThing 127 = .ok (.ireturn, 1) := by decide +kernel
theorem dX11_tryThing_128 : decode cX11_tryThing 128 = .ok (.aload_n 0, 1) := by decide +kernel
theorem dX11_tryThing_129 : decode cX11_tryThing 129 = .ok (.iconst 1, 1) := by decide +kernel
theorem dX11_tryThing_130 : decode cX11_tryThing 130 = .ok (.iload_n 2, 1) := by decide +kernel
theorem dX11_tryThing_131 : decode cX11_tryThing 131 = .ok (.iload_n 3, 1) := by decide +kernel
theorem dX11_tryThing_132 : decode cX11_tryThing 132 = .ok (.invokevirtual 151, 3) := by decide +kernel
theorem dX11_tryThing_135 : decode cX11_tryThing 135 = .ok (.istore 6, 2) := by decide +kernel
theorem dX11_tryThing_137 : decode cX11_tryThing 137 = .ok (.iload 6, 2) := by decide +kernel
theorem dX11_tryThing_139 : decode cX11_tryThing 139 = .ok (.ifCond .eq 11, 3) := by decide +kernel
theorem dX11_tryThing_142 : decode cX11_tryThing 142 = .ok (.aload_n 0, 1) := by decide +kernel
theorem dX11_tryThing_143 : decode cX11_tryThing 143 = .ok (.iconst 1, 1) := by decide +kernel
theorem dX11_tryThing_144 : decode cX11_tryThing 144 = .ok (.iload_n 2, 1) := by decide +kernel
theorem dX11_tryThing_145 : decode cX11_tryThing 145 = .ok (.iload_n 3, 1) := by decide +kernel
theorem dX11_tryThing_146 : decode cX11_tryThing 146 = .ok (.invokevirtual 155, 3) := by decide +kernel
theorem dX11_tryThing_149 : decode cX11_tryThing 149 = .ok (.pop, 1) := by decide +kernel
theorem dX11_tryThing_150 : decode cX11_tryThing 150 = .ok (.iload 6, 2) := by decide +kernel
theorem dX11_tryThing_152 : decode cX11_tryThing 152 = .ok (.ireturn, 1) := by decide +kernel
theorem dX11_tryThing_153 : decode cX11_tryThing 153 = .ok (.aload_n 0, 1) := by decide +kernel
theorem dX11_tryThing_154 : decode cX11_tryThing 154 = .ok (.iconst 1, 1) := by decide +kernel
theorem dX11_tryThing_155 : decode cX11_tryThing 155 = .ok (.invokevirtual 158, 3) := by decide +kernel
theorem dX11_tryThing_158 : decode cX11_tryThing 158 = .ok (.iload_n 2, 1) := by decide +kernel
theorem dX11_tryThing_159 : decode cX11_tryThing 159 = .ok (.ifCond .ne 11, 3) := by decide +kernel
theorem dX11_tryThing_162 : decode cX11_tryThing 162 = .ok (.iload_n 3, 1) := by decide +kernel
theorem dX11_tryThing_163 : decode cX11_tryThing 163 = .ok (.ifCond .ne 7, 3) := by decide +kernel
theorem dX11_tryThing_166 : decode cX11_tryThing 166 = .ok (.iconst 1, 1) := by decide +kernel
theorem dX11_tryThing_167 : decode cX11_tryThing 167 = .ok (.goto 4, 3) := by decide +kernel
theorem dX11_tryThing_170 : decode cX11_tryThing 170 = .ok (.iconst 0, 1) := by decide +kernel
theorem dX11_tryThing_171 : decode cX11_tryThing 171 = .ok (.ireturn, 1) := by decide +kernel
theorem dX11_tryThing_172 : decode cX11_tryThing 172 = .ok (.iconst 0, 1) := by decide +kernel
theorem dX11_tryThing_173 : decode cX11_tryThing 173 = .ok (.ireturn, 1) := by decide +kernel
theorem dX11_thousandTo_0 : decode cX11_thousandTo 0 = .ok (.lconst 1, 1) := by decide +kernel
theorem dX11_thousandTo_1 : decode cX11_thousandTo 1 = .ok (.lstore_n 1, 1) := by decide +kernel
theorem dX11_thousandTo_2 : decode cX11_thousandTo 2 = .ok (.iconst 0, 1) := by decide +kernel
theorem dX11_thousandTo_3 : decode cX11_thousandTo 3 = .ok (.istore_n 3, 1) := by decide +kernel
theorem dX11_thousandTo_4 : decode cX11_thousandTo 4 = .ok (.iload_n 3, 1) := by decide +kernel
theorem dX11_thousandTo_5 : decode cX11_thousandTo 5 = .ok (.iload_n 0, 1) := by decide +kernel
theorem dX11_thousandTo_6 : decode cX11_thousandTo 6 = .ok (.if_icmp .ge 15, 3) := by decide +kernel
theorem dX11_thousandTo_9 : decode cX11_thousandTo 9 = .ok (.lload_n 1, 1) := by decide +kernel
theorem dX11_thousandTo_10 : decode cX11_thousandTo 10 = .ok (.ldc2_w 189, 3) := by decide +kernel
theorem dX11_thousandTo_13 : decode cX11_thousandTo 13 = .ok (.lmul, 1) := by decide +kernel
theorem dX11_thousandTo_14 : decode cX11_thousandTo 14 = .ok (.lstore_n 1, 1) := by decide +kernel
theorem dX11_thousandTo_15 : decode cX11_thousandTo 15 = .ok (.iinc 3 1, 3) := by decide +kernel
theorem dX11_thousandTo_18 : decode cX11_thousandTo 18 = .ok (.goto (-14), 3) := by decide +kernel
theorem dX11_thousandTo_21 : decode cX11_thousandTo 21 = .ok (.lload_n 1, 1) := by decide +kernel
theorem dX11_thousandTo_22 : decode cX11_thousandTo 22 = .ok (.lreturn, 1) := by decide +kernel
theorem dX11_judge_0 : decode cX11_judge 0 = .ok (.iload_n 1, 1) := by decide +kernel
theorem dX11_judge_1 : decode cX11_judge 1 = .ok (.i2l, 1) := by decide +kernel
theorem dX11_judge_2 : decode cX11_judge 2 = .ok (.lconst 1, 1) := by decide +kernel
theorem dX11_judge_3 : decode cX11_judge 3 = .ok (.ldc2_w 191, 3) := by decide +kernel
theorem dX11_judge_6 : decode cX11_judge 6 = .ok (.invokestatic 62, 3) := by decide +kernel
theorem dX11_judge_9 : decode cX11_judge 9 = .ok (.ifCond .eq 17, 3) := by decide +kernel
theorem dX11_judge_12 : decode cX11_judge 12 = .ok (.lload_n 2, 1) := by decide +kernel
theorem dX11_judge_13 : decode cX11_judge 13 = .ok (.lconst 0, 1) := by decide +kernel
theorem dX11_judge_14 : decode cX11_judge 14 = .ok (.iload_n 1, 1) := by decide +kernel
theorem dX11_judge_15 : decode cX11_judge 15 = .ok (.invokestatic 193, 3) := by decide +kernel
theorem dX11_judge_18 : decode cX11_judge 18 = .ok (.lconst 1, 1) := by decide +kernel
theorem dX11_judge_19 : decode cX11_judge 19 = .ok (.lsub, 1) := by decide +kernel
theorem dX11_judge_20 : decode cX11_judge 20 = .ok (.invokestatic 62, 3) := by decide +kernel
theorem dX11_judge_23 : decode cX11_judge 23 = .ok (.ifCond .ne 6, 3) := by decide +kernel
theorem dX11_judge_26 : decode cX11_judge 26 = .ok (.bipush (-2), 2) := by decide +kernel
theorem dX11_judge_28 : decode cX11_judge 28 = .ok (.ireturn, 1) := by decide +kernel
theorem dX11_judge_29 : decode cX11_judge 29 = .ok (.aload_n 0, 1) := by decide +kernel
theorem dX11_judge_30 : decode cX11_judge 30 = .ok (.invokevirtual 164, 3) := by decide +kernel
theorem dX11_judge_33 : decode cX11_judge 33 = .ok (.iconst 0, 1) := by decide +kernel
theorem dX11_judge_34 : decode cX11_judge 34 = .ok (.istore 4, 2) := by decide +kernel
theorem dX11_judge_36 : decode cX11_judge 36 = .ok (.iload 4, 2) := by decide +kernel
theorem dX11_judge_38 : decode cX11_judge 38 = .ok (.iload_n 1, 1) := by decide +kernel
theorem dX11_judge_39 : decode cX11_judge 39 = .ok (.if_icmp .ge 55, 3) := by decide +kernel
theorem dX11_judge_42 : decode cX11_judge 42 = .ok (.lload_n 2, 1) := by decide +kernel
theorem dX11_judge_43 : decode cX11_judge 43 = .ok (.iload_n 1, 1) := by decide +kernel
theorem dX11_judge_44 : decode cX11_judge 44 = .ok (.iconst 1, 1) := by decide +kernel
theorem dX11_judge_45 : decode cX11_judge 45 = .ok (.isub, 1) := by decide +kernel
theorem dX11_judge_46 : decode cX11_judge 46 = .ok (.iload 4, 2) := by decide +kernel
theorem dX11_judge_48 : decode cX11_judge 48 = .ok (.isub, 1) := by decide +kernel
theorem dX11_judge_49 : decode cX11_judge 49 = .ok (.invokestatic 193, 3) := by decide +kernel
theorem dX11_judge_52 : decode cX11_judge 52 = .ok (.ldiv, 1) := by decide +kernel
theorem dX11_judge_53 : decode cX11_judge 53 = .ok (.ldc2_w 189, 3) := by decide +kernel
theorem dX11_judge_56 : decode cX11_judge 56 = .ok (.lrem, 1) := by decide +kernel
theorem dX11_judge_57 : decode cX11_judge 57 = .ok (.l2i, 1) := by decide +kernel
theorem dX11_judge_58 : decode cX11_judge 58 = .ok (.istore 5, 2) := by decide +kernel
theorem dX11_judge_60 : decode cX11_judge 60 = .ok (.aload_n 0, 1) := by decide +kernel
theorem dX11_judge_61 : decode cX11_judge 61 = .ok (.iload 5, 2) := by decide +kernel
theorem dX11_judge_63 : decode cX11_judge 63 = .ok (.bipush 100, 2) := by decide +kernel
theorem dX11_judge_65 : decode cX11_judge 65 = .ok (.idiv, 1) := by decide +kernel
theorem dX11_judge_66 : decode cX11_judge 66 = .ok (.iload 5, 2) := by decide +kernel
theorem dX11_judge_68 : decode cX11_judge 68 = .ok (.bipush 10, 2) := by decide +kernel
theorem dX11_judge_70 : decode cX11_judge 70 = .ok (.idiv, 1) := by decide +kernel
theorem dX11_judge_71 : decode cX11_judge 71 = .ok (.bipush 10, 2) := by decide +kernel
theorem dX11_judge_73 : decode cX11_judge 73 = .ok (.irem, 1) := by decide +kernel
theorem dX11_judge_74 : decode cX11_judge 74 = .ok (.iload 5, 2) := by decide +kernel
theorem dX11_judge_76 : decode cX11_judge 76 = .ok (.bipush 10, 2) := by decide +kernel
theorem dX11_judge_78 : decode cX11_judge 78 = .ok (.irem, 1) := by decide +kernel
theorem dX11_judge_79 : decode cX11_judge 79 = .ok (.invokevirtual 197, 3) := by decide +kernel
theorem dX11_judge_82 : decode cX11_judge 82 = .ok (.ifCond .ne 6, 3) := by decide +kernel
theorem dX11_judge_85 : decode cX11_judge 85 = .ok (.iload 4, 2) := by decide +kernel
theorem dX11_judge_87 : decode cX11_judge 87 = .ok (.ireturn, 1) := by decide +kernel
theorem dX11_judge_88 : decode cX11_judge 88 = .ok (.iinc 4 1, 3) := by decide +kernel
theorem dX11_judge_91 : decode cX11_judge 91 = .ok (.goto (-55), 3) := by decide +kernel
theorem dX11_judge_94 : decode cX11_judge 94 = .ok (.bipush (-9), 2) := by decide +kernel
theorem dX11_judge_96 : decode cX11_judge 96 = .ok (.ireturn, 1) := by decide +kernel
theorem dX11_see_0 : decode cX11_see 0 = .ok (.aload_n 0, 1) := by decide +kernel
theorem dX11_see_1 : decode cX11_see 1 = .ok (.iload_n 1, 1) := by decide +kernel
theorem dX11_see_2 : decode cX11_see 2 = .ok (.invokevirtual 133, 3) := by decide +kernel
theorem dX11_see_5 : decode cX11_see 5 = .ok (.ifCond .ne 5, 3) := by decide +kernel
theorem dX11_see_8 : decode cX11_see 8 = .ok (.iconst (-1), 1) := by decide +kernel
theorem dX11_see_9 : decode cX11_see 9 = .ok (.ireturn, 1) := by decide +kernel
theorem dX11_see_10 : decode cX11_see 10 = .ok (.iload_n 2, 1) := by decide +kernel
theorem dX11_see_11 : decode cX11_see 11 = .ok (.i2l, 1) := by decide +kernel
theorem dX11_see_12 : decode cX11_see 12 = .ok (.lconst 0, 1) := by decide +kernel
theorem dX11_see_13 : decode cX11_see 13 = .ok (.ldc2_w 75, 3) := by decide +kernel
theorem dX11_see_16 : decode cX11_see 16 = .ok (.invokestatic 62, 3) := by decide +kernel
theorem dX11_see_19 : decode cX11_see 19 = .ok (.ifCond .eq 14, 3) := by decide +kernel
theorem dX11_see_22 : decode cX11_see 22 = .ok (.iload_n 3, 1) := by decide +kernel
theorem dX11_see_23 : decode cX11_see 23 = .ok (.i2l, 1) := by decide +kernel
theorem dX11_see_24 : decode cX11_see 24 = .ok (.lconst 0, 1) := by decide +kernel
theorem dX11_see_25 : decode cX11_see 25 = .ok (.iload_n 2, 1) := by decide +kernel
theorem dX11_see_26 : decode cX11_see 26 = .ok (.i2l, 1) := by decide +kernel
theorem dX11_see_27 : decode cX11_see 27 = .ok (.invokestatic 62, 3) := by decide +kernel
theorem dX11_see_30 : decode cX11_see 30 = .ok (.ifCond .ne 6, 3) := by decide +kernel
theorem dX11_see_33 : decode cX11_see 33 = .ok (.bipush (-2), 2) := by decide +kernel
theorem dX11_see_35 : decode cX11_see 35 = .ok (.ireturn, 1) := by decide +kernel
theorem dX11_see_36 : decode cX11_see 36 = .ok (.aload_n 0, 1) := by decide +kernel
theorem dX11_see_37 : decode cX11_see 37 = .ok (.getfield 200, 3) := by decide +kernel
theorem dX11_see_40 : decode cX11_see 40 = .ok (.bipush 6, 2) := by decide +kernel
theorem dX11_see_42 : decode cX11_see 42 = .ok (.if_icmp .ne 6, 3) := by decide +kernel
theorem dX11_see_45 : decode cX11_see 45 = .ok (.bipush (-4), 2) := by decide +kernel
theorem dX11_see_47 : decode cX11_see 47 = .ok (.ireturn, 1) := by decide +kernel
theorem dX11_see_48 : decode cX11_see 48 = .ok (.aload_n 0, 1) := by decide +kernel
theorem dX11_see_49 : decode cX11_see 49 = .ok (.getfield 40, 3) := by decide +kernel
theorem dX11_see_52 : decode cX11_see 52 = .ok (.aload_n 0, 1) := by decide +kernel
theorem dX11_see_53 : decode cX11_see 53 = .ok (.getfield 200, 3) := by decide +kernel
theorem dX11_see_56 : decode cX11_see 56 = .ok (.iload_n 1, 1) := by decide +kernel
theorem dX11_see_57 : decode cX11_see 57 = .ok (.iastore, 1) := by decide +kernel
theorem dX11_see_58 : decode cX11_see 58 = .ok (.aload_n 0, 1) := by decide +kernel
theorem dX11_see_59 : decode cX11_see 59 = .ok (.getfield 43, 3) := by decide +kernel
theorem dX11_see_62 : decode cX11_see 62 = .ok (.aload_n 0, 1) := by decide +kernel
theorem dX11_see_63 : decode cX11_see 63 = .ok (.getfield 200, 3) := by decide +kernel
theorem dX11_see_66 : decode cX11_see 66 = .ok (.iload_n 2, 1) := by decide +kernel
theorem dX11_see_67 : decode cX11_see 67 = .ok (.iastore, 1) := by decide +kernel
theorem dX11_see_68 : decode cX11_see 68 = .ok (.aload_n 0, 1) := by decide +kernel
theorem dX11_see_69 : decode cX11_see 69 = .ok (.getfield 46, 3) := by decide +kernel
theorem dX11_see_72 : decode cX11_see 72 = .ok (.aload_n 0, 1) := by decide +kernel
theorem dX11_see_73 : decode cX11_see 73 = .ok (.getfield 200, 3) := by decide +kernel
theorem dX11_see_76 : decode cX11_see 76 = .ok (.iload_n 3, 1) := by decide +kernel
theorem dX11_see_77 : decode cX11_see 77 = .ok (.iastore, 1) := by decide +kernel
theorem dX11_see_78 : decode cX11_see 78 = .ok (.aload_n 0, 1) := by decide +kernel
theorem dX11_see_79 : decode cX11_see 79 = .ok (.dup, 1) := by decide +kernel
theorem dX11_see_80 : decode cX11_see 80 = .ok (.getfield 200, 3) := by decide +kernel
theorem dX11_see_83 : decode cX11_see 83 = .ok (.iconst 1, 1) := by decide +kernel
theorem dX11_see_84 : decode cX11_see 84 = .ok (.iadd, 1) := by decide +kernel
theorem dX11_see_85 : decode cX11_see 85 = .ok (.putfield 200, 3) := by decide +kernel
theorem dX11_see_88 : decode cX11_see 88 = .ok (.aload_n 0, 1) := by decide +kernel
theorem dX11_see_89 : decode cX11_see 89 = .ok (.getfield 200, 3) := by decide +kernel
theorem dX11_see_92 : decode cX11_see 92 = .ok (.ireturn, 1) := by decide +kernel
theorem dX11_unsee_0 : decode cX11_unsee 0 = .ok (.aload_n 0, 1) := by decide +kernel
theorem dX11_unsee_1 : decode cX11_unsee 1 = .ok (.getfield 200, 3) := by decide +kernel
theorem dX11_unsee_4 : decode cX11_unsee 4 = .ok (.istore_n 1, 1) := by decide +kernel
theorem dX11_unsee_5 : decode cX11_unsee 5 = .ok (.aload_n 0, 1) := by decide +kernel
theorem dX11_unsee_6 : decode cX11_unsee 6 = .ok (.iconst 0, 1) := by decide +kernel
theorem dX11_unsee_7 : decode cX11_unsee 7 = .ok (.putfield 200, 3) := by decide +kernel
theorem dX11_unsee_10 : decode cX11_unsee 10 = .ok (.iload_n 1, 1) := by decide +kernel
theorem dX11_unsee_11 : decode cX11_unsee 11 = .ok (.ireturn, 1) := by decide +kernel
theorem dX11_thirsts_0 : decode cX11_thirsts 0 = .ok (.aload_n 0, 1) := by decide +kernel
theorem dX11_thirsts_1 : decode cX11_thirsts 1 = .ok (.iload_n 1, 1) := by decide +kernel
theorem dX11_thirsts_2 : decode cX11_thirsts 2 = .ok (.invokevirtual 133, 3) := by decide +kernel
theorem dX11_thirsts_5 : decode cX11_thirsts 5 = .ok (.ifCond .ne 5, 3) := by decide +kernel
theorem dX11_thirsts_8 : decode cX11_thirsts 8 = .ok (.iconst (-1), 1) := by decide +kernel
theorem dX11_thirsts_9 : decode cX11_thirsts 9 = .ok (.ireturn, 1) := by decide +kernel
theorem dX11_thirsts_10 : decode cX11_thirsts 10 = .ok (.iconst 0, 1) := by decide +kernel
theorem dX11_thirsts_11 : decode cX11_thirsts 11 = .ok (.istore_n 2, 1) := by decide +kernel
theorem dX11_thirsts_12 : decode cX11_thirsts 12 = .ok (.iconst 0, 1) := by decide +kernel
theorem dX11_thirsts_13 : decode cX11_thirsts 13 = .ok (.istore_n 3, 1) := by decide +kernel
theorem dX11_thirsts_14 : decode cX11_thirsts 14 = .ok (.iload_n 3, 1) := by decide +kernel
theorem dX11_thirsts_15 : decode cX11_thirsts 15 = .ok (.bipush 10, 2) := by decide +kernel
theorem dX11_thirsts_17 : decode cX11_thirsts 17 = .ok (.if_icmp .ge 103, 3) := by decide +kernel
theorem dX11_thirsts_20 : decode cX11_thirsts 20 = .ok (.iconst 1, 1) := by decide +kernel
theorem dX11_thirsts_21 : decode cX11_thirsts 21 = .ok (.istore 4, 2) := by decide +kernel
theorem dX11_thirsts_23 : decode cX11_thirsts 23 = .ok (.iconst 0, 1) := by decide +kernel
theorem dX11_thirsts_24 : decode cX11_thirsts 24 = .ok (.istore 5, 2) := by decide +kernel
theorem dX11_thirsts_26 : decode cX11_thirsts 26 = .ok (.iload 5, 2) := by decide +kernel
theorem dX11_thirsts_28 : decode cX11_thirsts 28 = .ok (.aload_n 0, 1) := by decide +kernel
theorem dX11_thirsts_29 : decode cX11_thirsts 29 = .ok (.getfield 200, 3) := by decide +kernel
theorem dX11_thirsts_32 : decode cX11_thirsts 32 = .ok (.if_icmp .ge 67, 3) := by decide +kernel
theorem dX11_thirsts_35 : decode cX11_thirsts 35 = .ok (.iload 4, 2) := by decide +kernel
theorem dX11_thirsts_37 : decode cX11_thirsts 37 = .ok (.ifCond .eq 53, 3) := by decide +kernel
theorem dX11_thirsts_40 : decode cX11_thirsts 40 = .ok (.aload_n 0, 1) := by decide +kernel
theorem dX11_thirsts_41 : decode cX11_thirsts 41 = .ok (.getfield 40, 3) := by decide +kernel
theorem dX11_thirsts_44 : decode cX11_thirsts 44 = .ok (.iload 5, 2) := by decide +kernel
theorem dX11_thirsts_46 : decode cX11_thirsts 46 = .ok (.iaload, 1) := by decide +kernel
theorem dX11_thirsts_47 : decode cX11_thirsts 47 = .ok (.iload_n 1, 1) := by decide +kernel
theorem dX11_thirsts_48 : decode cX11_thirsts 48 = .ok (.if_icmp .ne 38, 3) := by decide +kernel
theorem dX11_thirsts_51 : decode cX11_thirsts 51 = .ok (.aload_n 0, 1) := by decide +kernel
theorem dX11_thirsts_52 : decode cX11_thirsts 52 = .ok (.getfield 43, 3) := by decide +kernel
theorem dX11_thirsts_55 : decode cX11_thirsts 55 = .ok (.iload 5, 2) := by decide +kernel
theorem dX11_thirsts_57 : decode cX11_thirsts 57 = .ok (.iaload, 1) := by decide +kernel
theorem dX11_thirsts_58 : decode cX11_thirsts 58 = .ok (.iload_n 3, 1) := by decide +kernel
theorem dX11_thirsts_59 : decode cX11_thirsts 59 = .ok (.aload_n 0, 1) := by decide +kernel
theorem dX11_thirsts_60 : decode cX11_thirsts 60 = .ok (.getfield 43, 3) := by decide +kernel
theorem dX11_thirsts_63 : decode cX11_thirsts 63 = .ok (.iload 5, 2) := by decide +kernel
theorem dX11_thirsts_65 : decode cX11_thirsts 65 = .ok (.iaload, 1) := by decide +kernel
theorem dX11_thirsts_66 : decode cX11_thirsts 66 = .ok (.aload_n 0, 1) := by decide +kernel
theorem dX11_thirsts_67 : decode cX11_thirsts 67 = .ok (.getfield 16, 3) := by decide +kernel
theorem dX11_thirsts_70 : decode cX11_thirsts 70 = .ok (.iload_n 1, 1) := by decide +kernel
theorem dX11_thirsts_71 : decode cX11_thirsts 71 = .ok (.iaload, 1) := by decide +kernel
theorem dX11_thirsts_72 : decode cX11_thirsts 72 = .ok (.invokestatic 111, 3) := by decide +kernel
theorem dX11_thirsts_75 : decode cX11_thirsts 75 = .ok (.isub, 1) := by decide +kernel
theorem dX11_thirsts_76 : decode cX11_thirsts 76 = .ok (.aload_n 0, 1) := by decide +kernel
theorem dX11_thirsts_77 : decode cX11_thirsts 77 = .ok (.getfield 46, 3) := by decide +kernel
theorem dX11_thirsts_80 : decode cX11_thirsts 80 = .ok (.iload 5, 2) := by decide +kernel
theorem dX11_thirsts_82 : decode cX11_thirsts 82 = .ok (.iaload, 1) := by decide +kernel
theorem dX11_thirsts_83 : decode cX11_thirsts 83 = .ok (.if_icmp .ne 7, 3) := by decide +kernel
theorem dX11_thirsts_86 : decode cX11_thirsts 86 = .ok (.iconst 1, 1) := by decide +kernel
theorem dX11_thirsts_87 : decode cX11_thirsts 87 = .ok (.goto 4, 3) := by decide +kernel
theorem dX11_thirsts_90 : decode cX11_thirsts 90 = .ok (.iconst 0, 1) := by decide +kernel
theorem dX11_thirsts_91 : decode cX11_thirsts 91 = .ok (.istore 4, 2) := by decide +kernel
theorem dX11_thirsts_93 : decode cX11_thirsts 93 = .ok (.iinc 5 1, 3) := by decide +kernel
theorem dX11_thirsts_96 : decode cX11_thirsts 96 = .ok (.goto (-70), 3) := by decide +kernel
theorem dX11_thirsts_99 : decode cX11_thirsts 99 = .ok (.iload_n 2, 1) := by decide +kernel
theorem dX11_thirsts_100 : decode cX11_thirsts 100 = .ok (.iload 4, 2) := by decide +kernel
theorem dX11_thirsts_102 : decode cX11_thirsts 102 = .ok (.ifCond .eq 9, 3) := by decide +kernel
theorem dX11_thirsts_105 : decode cX11_thirsts 105 = .ok (.iconst 1, 1) := by decide +kernel
theorem dX11_thirsts_106 : decode cX11_thirsts 106 = .ok (.iload_n 3, 1) := by decide +kernel
theorem dX11_thirsts_107 : decode cX11_thirsts 107 = .ok (.ishl, 1) := by decide +kernel
theorem dX11_thirsts_108 : decode cX11_thirsts 108 = .ok (.goto 4, 3) := by decide +kernel
theorem dX11_thirsts_111 : decode cX11_thirsts 111 = .ok (.iconst 0, 1) := by decide +kernel
theorem dX11_thirsts_112 : decode cX11_thirsts 112 = .ok (.ior, 1) := by decide +kernel
theorem dX11_thirsts_113 : decode cX11_thirsts 113 = .ok (.istore_n 2, 1) := by decide +kernel
theorem dX11_thirsts_114 : decode cX11_thirsts 114 = .ok (.iinc 3 1, 3) := by decide +kernel
theorem dX11_thirsts_117 : decode cX11_thirsts 117 = .ok (.goto (-103), 3) := by decide +kernel
theorem dX11_thirsts_120 : decode cX11_thirsts 120 = .ok (.iload_n 2, 1) := by decide +kernel
theorem dX11_thirsts_121 : decode cX11_thirsts 121 = .ok (.ireturn, 1) := by decide +kernel
theorem dX11_factorial_0 : decode cX11_factorial 0 = .ok (.iconst 1, 1) := by decide +kernel
theorem dX11_factorial_1 : decode cX11_factorial 1 = .ok (.istore_n 1, 1) := by decide +kernel
theorem dX11_factorial_2 : decode cX11_factorial 2 = .ok (.iconst 2, 1) := by decide +kernel
theorem dX11_factorial_3 : decode cX11_factorial 3 = .ok (.istore_n 2, 1) := by decide +kernel
theorem dX11_factorial_4 : decode cX11_factorial 4 = .ok (.iload_n 2, 1) := by decide +kernel
theorem dX11_factorial_5 : decode cX11_factorial 5 = .ok (.iload_n 0, 1) := by decide +kernel
theorem dX11_factorial_6 : decode cX11_factorial 6 = .ok (.if_icmp .gt 13, 3) := by decide +kernel
theorem dX11_factorial_9 : decode cX11_factorial 9 = .ok (.iload_n 1, 1) := by decide +kernel
theorem dX11_factorial_10 : decode cX11_factorial 10 = .ok (.iload_n 2, 1) := by decide +kernel
theorem dX11_factorial_11 : decode cX11_factorial 11 = .ok (.imul, 1) := by decide +kernel
theorem dX11_factorial_12 : decode cX11_factorial 12 = .ok (.istore_n 1, 1) := by decide +kernel
theorem dX11_factorial_13 : decode cX11_factorial 13 = .ok (.iinc 2 1, 3) := by decide +kernel
theorem dX11_factorial_16 : decode cX11_factorial 16 = .ok (.goto (-12), 3) := by decide +kernel
theorem dX11_factorial_19 : decode cX11_factorial 19 = .ok (.iload_n 1, 1) := by decide +kernel
theorem dX11_factorial_20 : decode cX11_factorial 20 = .ok (.ireturn, 1) := by decide +kernel
theorem dX11_common_0 : decode cX11_common 0 = .ok (.iload_n 0, 1) := by decide +kernel
theorem dX11_common_1 : decode cX11_common 1 = .ok (.ifCond .ge 8, 3) := by decide +kernel
theorem dX11_common_4 : decode cX11_common 4 = .ok (.iload_n 0, 1) := by decide +kernel
theorem dX11_common_5 : decode cX11_common 5 = .ok (.ineg, 1) := by decide +kernel
theorem dX11_common_6 : decode cX11_common 6 = .ok (.goto 4, 3) := by decide +kernel
theorem dX11_common_9 : decode cX11_common 9 = .ok (.iload_n 0, 1) := by decide +kernel
theorem dX11_common_10 : decode cX11_common 10 = .ok (.istore_n 2, 1) := by decide +kernel
theorem dX11_common_11 : decode cX11_common 11 = .ok (.iload_n 1, 1) := by decide +kernel
theorem dX11_common_12 : decode cX11_common 12 = .ok (.istore_n 3, 1) := by decide +kernel
theorem dX11_common_13 : decode cX11_common 13 = .ok (.iload_n 3, 1) := by decide +kernel
theorem dX11_common_14 : decode cX11_common 14 = .ok (.ifCond .eq 16, 3) := by decide +kernel
theorem dX11_common_17 : decode cX11_common 17 = .ok (.iload_n 2, 1) := by decide +kernel
theorem dX11_common_18 : decode cX11_common 18 = .ok (.iload_n 3, 1) := by decide +kernel
theorem dX11_common_19 : decode cX11_common 19 = .ok (.irem, 1) := by decide +kernel
theorem dX11_common_20 : decode cX11_common 20 = .ok (.istore 4, 2) := by decide +kernel
theorem dX11_common_22 : decode cX11_common 22 = .ok (.iload_n 3, 1) := by decide +kernel
theorem dX11_common_23 : decode cX11_common 23 = .ok (.istore_n 2, 1) := by decide +kernel
theorem dX11_common_24 : decode cX11_common 24 = .ok (.iload 4, 2) := by decide +kernel
theorem dX11_common_26 : decode cX11_common 26 = .ok (.istore_n 3, 1) := by decide +kernel
theorem dX11_common_27 : decode cX11_common 27 = .ok (.goto (-14), 3) := by decide +kernel
theorem dX11_common_30 : decode cX11_common 30 = .ok (.iload_n 2, 1) := by decide +kernel
theorem dX11_common_31 : decode cX11_common 31 = .ok (.ireturn, 1) := by decide +kernel
theorem dX11_taxesOf_0 : decode cX11_taxesOf 0 = .ok (.aload_n 0, 1) := by decide +kernel
theorem dX11_taxesOf_1 : decode cX11_taxesOf 1 = .ok (.invokevirtual 164, 3) := by decide +kernel
theorem dX11_taxesOf_4 : decode cX11_taxesOf 4 = .ok (.aload_n 0, 1) := by decide +kernel
theorem dX11_taxesOf_5 : decode cX11_taxesOf 5 = .ok (.iconst 1, 1) := by decide +kernel
theorem dX11_taxesOf_6 : decode cX11_taxesOf 6 = .ok (.iload_n 1, 1) := by decide +kernel
theorem dX11_taxesOf_7 : decode cX11_taxesOf 7 = .ok (.invokevirtual 167, 3) := by decide +kernel
theorem dX11_taxesOf_10 : decode cX11_taxesOf 10 = .ok (.aload_n 0, 1) := by decide +kernel
theorem dX11_taxesOf_11 : decode cX11_taxesOf 11 = .ok (.iconst 1, 1) := by decide +kernel
theorem dX11_taxesOf_12 : decode cX11_taxesOf 12 = .ok (.invokevirtual 161, 3) := by decide +kernel
theorem dX11_taxesOf_15 : decode cX11_taxesOf 15 = .ok (.ireturn, 1) := by decide +kernel
theorem dX11_share_0 : decode cX11_share 0 = .ok (.aload_n 0, 1) := by decide +kernel
theorem dX11_share_1 : decode cX11_share 1 = .ok (.iload_n 1, 1) := by decide +kernel
theorem dX11_share_2 : decode cX11_share 2 = .ok (.invokevirtual 133, 3) := by decide +kernel
theorem dX11_share_5 : decode cX11_share 5 = .ok (.ifCond .ne 5, 3) := by decide +kernel
theorem dX11_share_8 : decode cX11_share 8 = .ok (.iconst (-1), 1) := by decide +kernel
theorem dX11_share_9 : decode cX11_share 9 = .ok (.ireturn, 1) := by decide +kernel
theorem dX11_share_10 : decode cX11_share 10 = .ok (.iconst 0, 1) := by decide +kernel
theorem dX11_share_11 : decode cX11_share 11 = .ok (.istore_n 3, 1) := by decide +kernel
theorem dX11_share_12 : decode cX11_share 12 = .ok (.iconst 0, 1) := by decide +kernel
theorem dX11_share_13 : decode cX11_share 13 = .ok (.istore 4, 2) := by decide +kernel
theorem dX11_share_15 : decode cX11_share 15 = .ok (.iload 4, 2) := by decide +kernel
theorem dX11_share_17 : decode cX11_share 17 = .ok (.iconst 1, 1) := by decide +kernel
theorem dX11_share_18 : decode cX11_share 18 = .ok (.aload_n 0, 1) := by decide +kernel
theorem dX11_share_19 : decode cX11_share 19 = .ok (.getfield 105, 3) := by decide +kernel
theorem dX11_share_22 : decode cX11_share 22 = .ok (.ishl, 1) := by decide +kernel
theorem dX11_share_23 : decode cX11_share 23 = .ok (.if_icmp .ge 67, 3) := by decide +kernel
theorem dX11_share_26 : decode cX11_share 26 = .ok (.iload 4, 2) := by decide +kernel
theorem dX11_share_28 : decode cX11_share 28 = .ok (.iload_n 1, 1) := by decide +kernel
theorem dX11_share_29 : decode cX11_share 29 = .ok (.invokestatic 77, 3) := by decide +kernel
theorem dX11_share_32 : decode cX11_share 32 = .ok (.ifCond .ne 52, 3) := by decide +kernel
theorem dX11_share_35 : decode cX11_share 35 = .ok (.iload 4, 2) := by decide +kernel
theorem dX11_share_37 : decode cX11_share 37 = .ok (.invokestatic 183, 3) := by decide +kernel
theorem dX11_share_40 : decode cX11_share 40 = .ok (.invokestatic 203, 3) := by decide +kernel
theorem dX11_share_43 : decode cX11_share 43 = .ok (.aload_n 0, 1) := by decide +kernel
theorem dX11_share_44 : decode cX11_share 44 = .ok (.getfield 105, 3) := by decide +kernel
theorem dX11_share_47 : decode cX11_share 47 = .ok (.iconst 1, 1) := by decide +kernel
theorem dX11_share_48 : decode cX11_share 48 = .ok (.isub, 1) := by decide +kernel
theorem dX11_share_49 : decode cX11_share 49 = .ok (.iload 4, 2) := by decide +kernel
theorem dX11_share_51 : decode cX11_share 51 = .ok (.invokestatic 183, 3) := by decide +kernel
theorem dX11_share_54 : decode cX11_share 54 = .ok (.isub, 1) := by decide +kernel
theorem dX11_share_55 : decode cX11_share 55 = .ok (.invokestatic 203, 3) := by decide +kernel
theorem dX11_share_58 : decode cX11_share 58 = .ok (.imul, 1) := by decide +kernel
theorem dX11_share_59 : decode cX11_share 59 = .ok (.istore 5, 2) := by decide +kernel
theorem dX11_share_61 : decode cX11_share 61 = .ok (.iload_n 3, 1) := by decide +kernel
theorem dX11_share_62 : decode cX11_share 62 = .ok (.iload 5, 2) := by decide +kernel
theorem dX11_share_64 : decode cX11_share 64 = .ok (.aload_n 0, 1) := by decide +kernel
theorem dX11_share_65 : decode cX11_share 65 = .ok (.iload 4, 2) := by decide +kernel
theorem dX11_share_67 : decode cX11_share 67 = .ok (.iconst 1, 1) := by decide +kernel
theorem dX11_share_68 : decode cX11_share 68 = .ok (.iload_n 1, 1) := by decide +kernel
theorem dX11_share_69 : decode cX11_share 69 = .ok (.ishl, 1) := by decide +kernel
theorem dX11_share_70 : decode cX11_share 70 = .ok (.ior, 1) := by decide +kernel
theorem dX11_share_71 : decode cX11_share 71 = .ok (.invokevirtual 206, 3) := by decide +kernel
theorem dX11_share_74 : decode cX11_share 74 = .ok (.aload_n 0, 1) := by decide +kernel
theorem dX11_share_75 : decode cX11_share 75 = .ok (.iload 4, 2) := by decide +kernel
theorem dX11_share_77 : decode cX11_share 77 = .ok (.invokevirtual 206, 3) := by decide +kernel
theorem dX11_share_80 : decode cX11_share 80 = .ok (.isub, 1) := by decide +kernel
theorem dX11_share_81 : decode cX11_share 81 = .ok (.imul, 1) := by decide +kernel
theorem dX11_share_82 : decode cX11_share 82 = .ok (.iadd, 1) := by decide +kernel
theorem dX11_share_83 : decode cX11_share 83 = .ok (.istore_n 3, 1) := by decide +kernel
theorem dX11_share_84 : decode cX11_share 84 = .ok (.iinc 4 1, 3) := by decide +kernel
theorem dX11_share_87 : decode cX11_share 87 = .ok (.goto (-72), 3) := by decide +kernel
theorem dX11_share_90 : decode cX11_share 90 = .ok (.iload_n 3, 1) := by decide +kernel
theorem dX11_share_91 : decode cX11_share 91 = .ok (.aload_n 0, 1) := by decide +kernel
theorem dX11_share_92 : decode cX11_share 92 = .ok (.getfield 105, 3) := by decide +kernel
theorem dX11_share_95 : decode cX11_share 95 = .ok (.invokestatic 203, 3) := by decide +kernel
theorem dX11_share_98 : decode cX11_share 98 = .ok (.invokestatic 209, 3) := by decide +kernel
theorem dX11_share_101 : decode cX11_share 101 = .ok (.istore 4, 2) := by decide +kernel
theorem dX11_share_103 : decode cX11_share 103 = .ok (.iload_n 2, 1) := by decide +kernel
theorem dX11_share_104 : decode cX11_share 104 = .ok (.ifCond .eq 10, 3) := by decide +kernel
theorem dX11_share_107 : decode cX11_share 107 = .ok (.iload_n 3, 1) := by decide +kernel
theorem dX11_share_108 : decode cX11_share 108 = .ok (.iload 4, 2) := by decide +kernel
theorem dX11_share_110 : decode cX11_share 110 = .ok (.idiv, 1) := by decide +kernel
theorem dX11_share_111 : decode cX11_share 111 = .ok (.goto 13, 3) := by decide +kernel
theorem dX11_share_114 : decode cX11_share 114 = .ok (.aload_n 0, 1) := by decide +kernel
theorem dX11_share_115 : decode cX11_share 115 = .ok (.getfield 105, 3) := by decide +kernel
theorem dX11_share_118 : decode cX11_share 118 = .ok (.invokestatic 203, 3) := by decide +kernel
theorem dX11_share_121 : decode cX11_share 121 = .ok (.iload 4, 2) := by decide +kernel
theorem dX11_share_123 : decode cX11_share 123 = .ok (.idiv, 1) := by decide +kernel
theorem dX11_share_124 : decode cX11_share 124 = .ok (.ireturn, 1) := by decide +kernel
theorem dX11_gain_0 : decode cX11_gain 0 = .ok (.aload_n 0, 1) := by decide +kernel
theorem dX11_gain_1 : decode cX11_gain 1 = .ok (.invokevirtual 164, 3) := by decide +kernel
theorem dX11_gain_4 : decode cX11_gain 4 = .ok (.aload_n 0, 1) := by decide +kernel
theorem dX11_gain_5 : decode cX11_gain 5 = .ok (.iconst 1, 1) := by decide +kernel
theorem dX11_gain_6 : decode cX11_gain 6 = .ok (.iload_n 1, 1) := by decide +kernel
theorem dX11_gain_7 : decode cX11_gain 7 = .ok (.iload_n 3, 1) := by decide +kernel
theorem dX11_gain_8 : decode cX11_gain 8 = .ok (.invokevirtual 115, 3) := by decide +kernel
theorem dX11_gain_11 : decode cX11_gain 11 = .ok (.istore 6, 2) := by decide +kernel
theorem dX11_gain_13 : decode cX11_gain 13 = .ok (.aload_n 0, 1) := by decide +kernel
theorem dX11_gain_14 : decode cX11_gain 14 = .ok (.iconst 1, 1) := by decide +kernel
theorem dX11_gain_15 : decode cX11_gain 15 = .ok (.iload_n 2, 1) := by decide +kernel
theorem dX11_gain_16 : decode cX11_gain 16 = .ok (.iload 4, 2) := by decide +kernel
theorem dX11_gain_18 : decode cX11_gain 18 = .ok (.invokevirtual 115, 3) := by decide +kernel
theorem dX11_gain_21 : decode cX11_gain 21 = .ok (.istore 7, 2) := by decide +kernel
theorem dX11_gain_23 : decode cX11_gain 23 = .ok (.iload 5, 2) := by decide +kernel
theorem dX11_gain_25 : decode cX11_gain 25 = .ok (.ifCond .eq 8, 3) := by decide +kernel
theorem dX11_gain_28 : decode cX11_gain 28 = .ok (.iload 6, 2) := by decide +kernel
theorem dX11_gain_30 : decode cX11_gain 30 = .ok (.goto 5, 3) := by decide +kernel
theorem dX11_gain_33 : decode cX11_gain 33 = .ok (.iload 7, 2) := by decide +kernel
theorem dX11_gain_35 : decode cX11_gain 35 = .ok (.iload_n 3, 1) := by decide +kernel
theorem dX11_gain_36 : decode cX11_gain 36 = .ok (.iload 4, 2) := by decide +kernel
theorem dX11_gain_38 : decode cX11_gain 38 = .ok (.if_icmp .ne 7, 3) := by decide +kernel
theorem dX11_gain_41 : decode cX11_gain 41 = .ok (.iconst 1, 1) := by decide +kernel
theorem dX11_gain_42 : decode cX11_gain 42 = .ok (.goto 4, 3) := by decide +kernel
theorem dX11_gain_45 : decode cX11_gain 45 = .ok (.iconst 0, 1) := by decide +kernel
theorem dX11_gain_46 : decode cX11_gain 46 = .ok (.isub, 1) := by decide +kernel
theorem dX11_gain_47 : decode cX11_gain 47 = .ok (.ireturn, 1) := by decide +kernel
theorem dX11_isRest_0 : decode cX11_isRest 0 = .ok (.iconst 1, 1) := by decide +kernel
theorem dX11_isRest_1 : decode cX11_isRest 1 = .ok (.istore 5, 2) := by decide +kernel
theorem dX11_isRest_3 : decode cX11_isRest 3 = .ok (.iconst 0, 1) := by decide +kernel
theorem dX11_isRest_4 : decode cX11_isRest 4 = .ok (.istore 6, 2) := by decide +kernel
theorem dX11_isRest_6 : decode cX11_isRest 6 = .ok (.iload 6, 2) := by decide +kernel
theorem dX11_isRest_8 : decode cX11_isRest 8 = .ok (.aload_n 0, 1) := by decide +kernel
theorem dX11_isRest_9 : decode cX11_isRest 9 = .ok (.getfield 56, 3) := by decide +kernel
theorem dX11_isRest_12 : decode cX11_isRest 12 = .ok (.if_icmp .ge 108, 3) := by decide +kernel
theorem dX11_isRest_15 : decode cX11_isRest 15 = .ok (.iload 5, 2) := by decide +kernel
theorem dX11_isRest_17 : decode cX11_isRest 17 = .ok (.ifCond .eq 45, 3) := by decide +kernel
theorem dX11_isRest_20 : decode cX11_isRest 20 = .ok (.aload_n 0, 1) := by decide +kernel
theorem dX11_isRest_21 : decode cX11_isRest 21 = .ok (.getfield 19, 3) := by decide +kernel
theorem dX11_isRest_24 : decode cX11_isRest 24 = .ok (.iload_n 1, 1) := by decide +kernel
theorem dX11_isRest_25 : decode cX11_isRest 25 = .ok (.iaload, 1) := by decide +kernel
theorem dX11_isRest_26 : decode cX11_isRest 26 = .ok (.iload 6, 2) := by decide +kernel
theorem dX11_isRest_28 : decode cX11_isRest 28 = .ok (.invokestatic 77, 3) := by decide +kernel
theorem dX11_isRest_31 : decode cX11_isRest 31 = .ok (.ifCond .eq 27, 3) := by decide +kernel
theorem dX11_isRest_34 : decode cX11_isRest 34 = .ok (.aload_n 0, 1) := by decide +kernel
theorem dX11_isRest_35 : decode cX11_isRest 35 = .ok (.iload_n 1, 1) := by decide +kernel
theorem dX11_isRest_36 : decode cX11_isRest 36 = .ok (.iload_n 2, 1) := by decide +kernel
theorem dX11_isRest_37 : decode cX11_isRest 37 = .ok (.iload 6, 2) := by decide +kernel
theorem dX11_isRest_39 : decode cX11_isRest 39 = .ok (.iload 4, 2) := by decide +kernel
theorem dX11_isRest_41 : decode cX11_isRest 41 = .ok (.iconst 1, 1) := by decide +kernel
theorem dX11_isRest_42 : decode cX11_isRest 42 = .ok (.invokevirtual 212, 3) := by decide +kernel
theorem dX11_isRest_45 : decode cX11_isRest 45 = .ok (.aload_n 0, 1) := by decide +kernel
theorem dX11_isRest_46 : decode cX11_isRest 46 = .ok (.iload_n 1, 1) := by decide +kernel
theorem dX11_isRest_47 : decode cX11_isRest 47 = .ok (.iload_n 2, 1) := by decide +kernel
theorem dX11_isRest_48 : decode cX11_isRest 48 = .ok (.iload_n 3, 1) := by decide +kernel
theorem dX11_isRest_49 : decode cX11_isRest 49 = .ok (.iload 4, 2) := by decide +kernel
theorem dX11_isRest_51 : decode cX11_isRest 51 = .ok (.iconst 1, 1) := by decide +kernel
theorem dX11_isRest_52 : decode cX11_isRest 52 = .ok (.invokevirtual 212, 3) := by decide +kernel
theorem dX11_isRest_55 : decode cX11_isRest 55 = .ok (.if_icmp .gt 7, 3) := by decide +kernel
theorem dX11_isRest_58 : decode cX11_isRest 58 = .ok (.iconst 1, 1) := by decide +kernel
theorem dX11_isRest_59 : decode cX11_isRest 59 = .ok (.goto 4, 3) := by decide +kernel
theorem dX11_isRest_62 : decode cX11_isRest 62 = .ok (.iconst 0, 1) := by decide +kernel
theorem dX11_isRest_63 : decode cX11_isRest 63 = .ok (.istore 5, 2) := by decide +kernel
theorem dX11_isRest_65 : decode cX11_isRest 65 = .ok (.iload 5, 2) := by decide +kernel
theorem dX11_isRest_67 : decode cX11_isRest 67 = .ok (.ifCond .eq 44, 3) := by decide +kernel
theorem dX11_isRest_70 : decode cX11_isRest 70 = .ok (.aload_n 0, 1) := by decide +kernel
theorem dX11_isRest_71 : decode cX11_isRest 71 = .ok (.getfield 19, 3) := by decide +kernel
theorem dX11_isRest_74 : decode cX11_isRest 74 = .ok (.iload_n 2, 1) := by decide +kernel
theorem dX11_isRest_75 : decode cX11_isRest 75 = .ok (.iaload, 1) := by decide +kernel
theorem dX11_isRest_76 : decode cX11_isRest 76 = .ok (.iload 6, 2) := by decide +kernel
theorem dX11_isRest_78 : decode cX11_isRest 78 = .ok (.invokestatic 77, 3) := by decide +kernel
theorem dX11_isRest_81 : decode cX11_isRest 81 = .ok (.ifCond .eq 26, 3) := by decide +kernel
theorem dX11_isRest_84 : decode cX11_isRest 84 = .ok (.aload_n 0, 1) := by decide +kernel
theorem dX11_isRest_85 : decode cX11_isRest 85 = .ok (.iload_n 1, 1) := by decide +kernel
theorem dX11_isRest_86 : decode cX11_isRest 86 = .ok (.iload_n 2, 1) := by decide +kernel
theorem dX11_isRest_87 : decode cX11_isRest 87 = .ok (.iload_n 3, 1) := by decide +kernel
theorem dX11_isRest_88 : decode cX11_isRest 88 = .ok (.iload 6, 2) := by decide +kernel
theorem dX11_isRest_90 : decode cX11_isRest 90 = .ok (.iconst 0, 1) := by decide +kernel
theorem dX11_isRest_91 : decode cX11_isRest 91 = .ok (.invokevirtual 212, 3) := by decide +kernel
theorem dX11_isRest_94 : decode cX11_isRest 94 = .ok (.aload_n 0, 1) := by decide +kernel
theorem dX11_isRest_95 : decode cX11_isRest 95 = .ok (.iload_n 1, 1) := by decide +kernel
theorem dX11_isRest_96 : decode cX11_isRest 96 = .ok (.iload_n 2, 1) := by decide +kernel
theorem dX11_isRest_97 : decode cX11_isRest 97 = .ok (.iload_n 3, 1) := by decide +kernel
theorem dX11_isRest_98 : decode cX11_isRest 98 = .ok (.iload 4, 2) := by decide +kernel
theorem dX11_isRest_100 : decode cX11_isRest 100 = .ok (.iconst 0, 1) := by decide +kernel
theorem dX11_isRest_101 : decode cX11_isRest 101 = .ok (.invokevirtual 212, 3) := by decide +kernel
theorem dX11_isRest_104 : decode cX11_isRest 104 = .ok (.if_icmp .gt 7, 3) := by decide +kernel
theorem dX11_isRest_107 : decode cX11_isRest 107 = .ok (.iconst 1, 1) := by decide +kernel
theorem dX11_isRest_108 : decode cX11_isRest 108 = .ok (.goto 4, 3) := by decide +kernel
theorem dX11_isRest_111 : decode cX11_isRest 111 = .ok (.iconst 0, 1) := by decide +kernel
theorem dX11_isRest_112 : decode cX11_isRest 112 = .ok (.istore 5, 2) := by decide +kernel
theorem dX11_isRest_114 : decode cX11_isRest 114 = .ok (.iinc 6 1, 3) := by decide +kernel
theorem dX11_isRest_117 : decode cX11_isRest 117 = .ok (.goto (-111), 3) := by decide +kernel
theorem dX11_isRest_120 : decode cX11_isRest 120 = .ok (.iload 5, 2) := by decide +kernel
theorem dX11_isRest_122 : decode cX11_isRest 122 = .ok (.ireturn, 1) := by decide +kernel
theorem dX11_rests_0 : decode cX11_rests 0 = .ok (.aload_n 0, 1) := by decide +kernel
theorem dX11_rests_1 : decode cX11_rests 1 = .ok (.iload_n 1, 1) := by decide +kernel
theorem dX11_rests_2 : decode cX11_rests 2 = .ok (.invokevirtual 133, 3) := by decide +kernel
theorem dX11_rests_5 : decode cX11_rests 5 = .ok (.ifCond .eq 11, 3) := by decide +kernel
theorem dX11_rests_8 : decode cX11_rests 8 = .ok (.aload_n 0, 1) := by decide +kernel
theorem dX11_rests_9 : decode cX11_rests 9 = .ok (.iload_n 2, 1) := by decide +kernel
theorem dX11_rests_10 : decode cX11_rests 10 = .ok (.invokevirtual 133, 3) := by decide +kernel
theorem dX11_rests_13 : decode cX11_rests 13 = .ok (.ifCond .ne 5, 3) := by decide +kernel
theorem dX11_rests_16 : decode cX11_rests 16 = .ok (.iconst (-1), 1) := by decide +kernel
theorem dX11_rests_17 : decode cX11_rests 17 = .ok (.ireturn, 1) := by decide +kernel
theorem dX11_rests_18 : decode cX11_rests 18 = .ok (.iload_n 1, 1) := by decide +kernel
theorem dX11_rests_19 : decode cX11_rests 19 = .ok (.iload_n 2, 1) := by decide +kernel
theorem dX11_rests_20 : decode cX11_rests 20 = .ok (.if_icmp .eq 13, 3) := by decide +kernel
theorem dX11_rests_23 : decode cX11_rests 23 = .ok (.iload_n 3, 1) := by decide +kernel
theorem dX11_rests_24 : decode cX11_rests 24 = .ok (.i2l, 1) := by decide +kernel
theorem dX11_rests_25 : decode cX11_rests 25 = .ok (.lconst 0, 1) := by decide +kernel
theorem dX11_rests_26 : decode cX11_rests 26 = .ok (.lconst 1, 1) := by decide +kernel
theorem dX11_rests_27 : decode cX11_rests 27 = .ok (.invokestatic 62, 3) := by decide +kernel
theorem dX11_rests_30 : decode cX11_rests 30 = .ok (.ifCond .ne 6, 3) := by decide +kernel
theorem dX11_rests_33 : decode cX11_rests 33 = .ok (.bipush (-2), 2) := by decide +kernel
theorem dX11_rests_35 : decode cX11_rests 35 = .ok (.ireturn, 1) := by decide +kernel
theorem dX11_rests_36 : decode cX11_rests 36 = .ok (.aload_n 0, 1) := by decide +kernel
theorem dX11_rests_37 : decode cX11_rests 37 = .ok (.getfield 19, 3) := by decide +kernel
theorem dX11_rests_40 : decode cX11_rests 40 = .ok (.iload_n 1, 1) := by decide +kernel
theorem dX11_rests_41 : decode cX11_rests 41 = .ok (.iaload, 1) := by decide +kernel
theorem dX11_rests_42 : decode cX11_rests 42 = .ok (.ifCond .eq 12, 3) := by decide +kernel
theorem dX11_rests_45 : decode cX11_rests 45 = .ok (.aload_n 0, 1) := by decide +kernel
theorem dX11_rests_46 : decode cX11_rests 46 = .ok (.getfield 19, 3) := by decide +kernel
theorem dX11_rests_49 : decode cX11_rests 49 = .ok (.iload_n 2, 1) := by decide +kernel
theorem dX11_rests_50 : decode cX11_rests 50 = .ok (.iaload, 1) := by decide +kernel
theorem dX11_rests_51 : decode cX11_rests 51 = .ok (.ifCond .ne 6, 3) := by decide +kernel
theorem dX11_rests_54 : decode cX11_rests 54 = .ok (.bipush (-9), 2) := by decide +kernel
theorem dX11_rests_56 : decode cX11_rests 56 = .ok (.ireturn, 1) := by decide +kernel
theorem dX11_rests_57 : decode cX11_rests 57 = .ok (.iconst 0, 1) := by decide +kernel
theorem dX11_rests_58 : decode cX11_rests 58 = .ok (.istore 4, 2) := by decide +kernel
theorem dX11_rests_60 : decode cX11_rests 60 = .ok (.bipush (-9), 2) := by decide +kernel
theorem dX11_rests_62 : decode cX11_rests 62 = .ok (.istore 5, 2) := by decide +kernel
theorem dX11_rests_64 : decode cX11_rests 64 = .ok (.iconst 0, 1) := by decide +kernel
theorem dX11_rests_65 : decode cX11_rests 65 = .ok (.istore 6, 2) := by decide +kernel
theorem dX11_rests_67 : decode cX11_rests 67 = .ok (.iload 6, 2) := by decide +kernel
theorem dX11_rests_69 : decode cX11_rests 69 = .ok (.aload_n 0, 1) := by decide +kernel
theorem dX11_rests_70 : decode cX11_rests 70 = .ok (.getfield 56, 3) := by decide +kernel
theorem dX11_rests_73 : decode cX11_rests 73 = .ok (.aload_n 0, 1) := by decide +kernel
theorem dX11_rests_74 : decode cX11_rests 74 = .ok (.getfield 56, 3) := by decide +kernel
theorem dX11_rests_77 : decode cX11_rests 77 = .ok (.imul, 1) := by decide +kernel
theorem dX11_rests_78 : decode cX11_rests 78 = .ok (.if_icmp .ge 91, 3) := by decide +kernel
theorem dX11_rests_81 : decode cX11_rests 81 = .ok (.iload 6, 2) := by decide +kernel
theorem dX11_rests_83 : decode cX11_rests 83 = .ok (.aload_n 0, 1) := by decide +kernel
theorem dX11_rests_84 : decode cX11_rests 84 = .ok (.getfield 56, 3) := by decide +kernel
theorem dX11_rests_87 : decode cX11_rests 87 = .ok (.idiv, 1) := by decide +kernel
theorem dX11_rests_88 : decode cX11_rests 88 = .ok (.istore 7, 2) := by decide +kernel
theorem dX11_rests_90 : decode cX11_rests 90 = .ok (.iload 6, 2) := by decide +kernel
theorem dX11_rests_92 : decode cX11_rests 92 = .ok (.aload_n 0, 1) := by decide +kernel
theorem dX11_rests_93 : decode cX11_rests 93 = .ok (.getfield 56, 3) := by decide +kernel
theorem dX11_rests_96 : decode cX11_rests 96 = .ok (.irem, 1) := by decide +kernel
theorem dX11_rests_97 : decode cX11_rests 97 = .ok (.istore 8, 2) := by decide +kernel
theorem dX11_rests_99 : decode cX11_rests 99 = .ok (.aload_n 0, 1) := by decide +kernel
theorem dX11_rests_100 : decode cX11_rests 100 = .ok (.getfield 19, 3) := by decide +kernel
theorem dX11_rests_103 : decode cX11_rests 103 = .ok (.iload_n 1, 1) := by decide +kernel
theorem dX11_rests_104 : decode cX11_rests 104 = .ok (.iaload, 1) := by decide +kernel
theorem dX11_rests_105 : decode cX11_rests 105 = .ok (.iload 7, 2) := by decide +kernel
theorem dX11_rests_107 : decode cX11_rests 107 = .ok (.invokestatic 77, 3) := by decide +kernel
theorem dX11_rests_110 : decode cX11_rests 110 = .ok (.ifCond .eq 53, 3) := by decide +kernel
theorem dX11_rests_113 : decode cX11_rests 113 = .ok (.aload_n 0, 1) := by decide +kernel
theorem dX11_rests_114 : decode cX11_rests 114 = .ok (.getfield 19, 3) := by decide +kernel
theorem dX11_rests_117 : decode cX11_rests 117 = .ok (.iload_n 2, 1) := by decide +kernel
theorem dX11_rests_118 : decode cX11_rests 118 = .ok (.iaload, 1) := by decide +kernel
theorem dX11_rests_119 : decode cX11_rests 119 = .ok (.iload 8, 2) := by decide +kernel
theorem dX11_rests_121 : decode cX11_rests 121 = .ok (.invokestatic 77, 3) := by decide +kernel
theorem dX11_rests_124 : decode cX11_rests 124 = .ok (.ifCond .eq 39, 3) := by decide +kernel
theorem dX11_rests_127 : decode cX11_rests 127 = .ok (.aload_n 0, 1) := by decide +kernel
theorem dX11_rests_128 : decode cX11_rests 128 = .ok (.iload_n 1, 1) := by decide +kernel
theorem dX11_rests_129 : decode cX11_rests 129 = .ok (.iload_n 2, 1) := by decide +kernel
theorem dX11_rests_130 : decode cX11_rests 130 = .ok (.iload 7, 2) := by decide +kernel
theorem dX11_rests_132 : decode cX11_rests 132 = .ok (.iload 8, 2) := by decide +kernel
theorem dX11_rests_134 : decode cX11_rests 134 = .ok (.invokevirtual 216, 3) := by decide +kernel
theorem dX11_rests_137 : decode cX11_rests 137 = .ok (.ifCond .eq 26, 3) := by decide +kernel
theorem dX11_rests_140 : decode cX11_rests 140 = .ok (.iload 4, 2) := by decide +kernel
theorem dX11_rests_142 : decode cX11_rests 142 = .ok (.ifCond .ne 14, 3) := by decide +kernel
theorem dX11_rests_145 : decode cX11_rests 145 = .ok (.bipush 10, 2) := by decide +kernel
theorem dX11_rests_147 : decode cX11_rests 147 = .ok (.iload 7, 2) := by decide +kernel
theorem dX11_rests_149 : decode cX11_rests 149 = .ok (.imul, 1) := by decide +kernel
theorem dX11_rests_150 : decode cX11_rests 150 = .ok (.iload 8, 2) := by decide +kernel
theorem dX11_rests_152 : decode cX11_rests 152 = .ok (.iadd, 1) := by decide +kernel
theorem dX11_rests_153 : decode cX11_rests 153 = .ok (.goto 5, 3) := by decide +kernel
theorem dX11_rests_156 : decode cX11_rests 156 = .ok (.iload 5, 2) := by decide +kernel
theorem dX11_rests_158 : decode cX11_rests 158 = .ok (.istore 5, 2) := by decide +kernel
theorem dX11_rests_160 : decode cX11_rests 160 = .ok (.iinc 4 1, 3) := by decide +kernel
theorem dX11_rests_163 : decode cX11_rests 163 = .ok (.iinc 6 1, 3) := by decide +kernel
theorem dX11_rests_166 : decode cX11_rests 166 = .ok (.goto (-99), 3) := by decide +kernel
theorem dX11_rests_169 : decode cX11_rests 169 = .ok (.iload_n 3, 1) := by decide +kernel
theorem dX11_rests_170 : decode cX11_rests 170 = .ok (.ifCond .ne 8, 3) := by decide +kernel
theorem dX11_rests_173 : decode cX11_rests 173 = .ok (.iload 4, 2) := by decide +kernel
theorem dX11_rests_175 : decode cX11_rests 175 = .ok (.goto 5, 3) := by decide +kernel
theorem dX11_rests_178 : decode cX11_rests 178 = .ok (.iload 5, 2) := by decide +kernel
theorem dX11_rests_180 : decode cX11_rests 180 = .ok (.ireturn, 1) := by decide +kernel
theorem dX11_leak_0 : decode cX11_leak 0 = .ok (.iload_n 1, 1) := by decide +kernel
theorem dX11_leak_1 : decode cX11_leak 1 = .ok (.i2l, 1) := by decide +kernel
theorem dX11_leak_2 : decode cX11_leak 2 = .ok (.lconst 0, 1) := by decide +kernel
theorem dX11_leak_3 : decode cX11_leak 3 = .ok (.ldc2_w 220, 3) := by decide +kernel
theorem dX11_leak_6 : decode cX11_leak 6 = .ok (.invokestatic 62, 3) := by decide +kernel
theorem dX11_leak_9 : decode cX11_leak 9 = .ok (.ifCond .eq 15, 3) := by decide +kernel
theorem dX11_leak_12 : decode cX11_leak 12 = .ok (.iload_n 2, 1) := by decide +kernel
theorem dX11_leak_13 : decode cX11_leak 13 = .ok (.i2l, 1) := by decide +kernel
theorem dX11_leak_14 : decode cX11_leak 14 = .ok (.lconst 0, 1) := by decide +kernel
theorem dX11_leak_15 : decode cX11_leak 15 = .ok (.ldc2_w 222, 3) := by decide +kernel
theorem dX11_leak_18 : decode cX11_leak 18 = .ok (.invokestatic 62, 3) := by decide +kernel
theorem dX11_leak_21 : decode cX11_leak 21 = .ok (.ifCond .ne 6, 3) := by decide +kernel
theorem dX11_leak_24 : decode cX11_leak 24 = .ok (.bipush (-2), 2) := by decide +kernel
theorem dX11_leak_26 : decode cX11_leak 26 = .ok (.ireturn, 1) := by decide +kernel
theorem dX11_leak_27 : decode cX11_leak 27 = .ok (.iconst 0, 1) := by decide +kernel
theorem dX11_leak_28 : decode cX11_leak 28 = .ok (.istore 4, 2) := by decide +kernel
theorem dX11_leak_30 : decode cX11_leak 30 = .ok (.iconst 0, 1) := by decide +kernel
theorem dX11_leak_31 : decode cX11_leak 31 = .ok (.istore 5, 2) := by decide +kernel
theorem dX11_leak_33 : decode cX11_leak 33 = .ok (.iconst 0, 1) := by decide +kernel
theorem dX11_leak_34 : decode cX11_leak 34 = .ok (.istore 6, 2) := by decide +kernel
theorem dX11_leak_36 : decode cX11_leak 36 = .ok (.iload 6, 2) := by decide +kernel
theorem dX11_leak_38 : decode cX11_leak 38 = .ok (.iconst 1, 1) := by decide +kernel
theorem dX11_leak_39 : decode cX11_leak 39 = .ok (.aload_n 0, 1) := by decide +kernel
theorem dX11_leak_40 : decode cX11_leak 40 = .ok (.getfield 56, 3) := by decide +kernel
theorem dX11_leak_43 : decode cX11_leak 43 = .ok (.ishl, 1) := by decide +kernel
theorem dX11_leak_44 : decode cX11_leak 44 = .ok (.if_icmp .ge 132, 3) := by decide +kernel
theorem dX11_leak_47 : decode cX11_leak 47 = .ok (.aload_n 0, 1) := by decide +kernel
theorem dX11_leak_48 : decode cX11_leak 48 = .ok (.invokevirtual 164, 3) := by decide +kernel
theorem dX11_leak_51 : decode cX11_leak 51 = .ok (.iconst 1, 1) := by decide +kernel
theorem dX11_leak_52 : decode cX11_leak 52 = .ok (.istore 7, 2) := by decide +kernel
theorem dX11_leak_54 : decode cX11_leak 54 = .ok (.iconst 0, 1) := by decide +kernel
theorem dX11_leak_55 : decode cX11_leak 55 = .ok (.istore 8, 2) := by decide +kernel
theorem dX11_leak_57 : decode cX11_leak 57 = .ok (.iload 8, 2) := by decide +kernel
theorem dX11_leak_59 : decode cX11_leak 59 = .ok (.aload_n 0, 1) := by decide +kernel
theorem dX11_leak_60 : decode cX11_leak 60 = .ok (.getfield 56, 3) := by decide +kernel
theorem dX11_leak_63 : decode cX11_leak 63 = .ok (.if_icmp .ge 73, 3) := by decide +kernel
theorem dX11_leak_66 : decode cX11_leak 66 = .ok (.iload 7, 2) := by decide +kernel
theorem dX11_leak_68 : decode cX11_leak 68 = .ok (.iload 6, 2) := by decide +kernel
theorem dX11_leak_70 : decode cX11_leak 70 = .ok (.iload 8, 2) := by decide +kernel
theorem dX11_leak_72 : decode cX11_leak 72 = .ok (.invokestatic 77, 3) := by decide +kernel
theorem dX11_leak_75 : decode cX11_leak 75 = .ok (.ifCond .eq 7, 3) := by decide +kernel
theorem dX11_leak_78 : decode cX11_leak 78 = .ok (.iload_n 2, 1) := by decide +kernel
theorem dX11_leak_79 : decode cX11_leak 79 = .ok (.goto 7, 3) := by decide +kernel
theorem dX11_leak_82 : decode cX11_leak 82 = .ok (.bipush 10, 2) := by decide +kernel
theorem dX11_leak_84 : decode cX11_leak 84 = .ok (.iload_n 2, 1) := by decide +kernel
theorem dX11_leak_85 : decode cX11_leak 85 = .ok (.isub, 1) := by decide +kernel
theorem dX11_leak_86 : decode cX11_leak 86 = .ok (.imul, 1) := by decide +kernel
theorem dX11_leak_87 : decode cX11_leak 87 = .ok (.istore 7, 2) := by decide +kernel
theorem dX11_leak_89 : decode cX11_leak 89 = .ok (.aload_n 0, 1) := by decide +kernel
theorem dX11_leak_90 : decode cX11_leak 90 = .ok (.getfield 22, 3) := by decide +kernel
theorem dX11_leak_93 : decode cX11_leak 93 = .ok (.bipush 15, 2) := by decide +kernel
theorem dX11_leak_95 : decode cX11_leak 95 = .ok (.iload 8, 2) := by decide +kernel
theorem dX11_leak_97 : decode cX11_leak 97 = .ok (.iadd, 1) := by decide +kernel
theorem dX11_leak_98 : decode cX11_leak 98 = .ok (.dup2, 1) := by decide +kernel
theorem dX11_leak_99 : decode cX11_leak 99 = .ok (.iaload, 1) := by decide +kernel
theorem dX11_leak_100 : decode cX11_leak 100 = .ok (.iload 6, 2) := by decide +kernel
theorem dX11_leak_102 : decode cX11_leak 102 = .ok (.iload 8, 2) := by decide +kernel
theorem dX11_leak_104 : decode cX11_leak 104 = .ok (.invokestatic 77, 3) := by decide +kernel
theorem dX11_leak_107 : decode cX11_leak 107 = .ok (.ifCond .eq 20, 3) := by decide +kernel
theorem dX11_leak_110 : decode cX11_leak 110 = .ok (.aload_n 0, 1) := by decide +kernel
theorem dX11_leak_111 : decode cX11_leak 111 = .ok (.getfield 22, 3) := by decide +kernel
theorem dX11_leak_114 : decode cX11_leak 114 = .ok (.bipush 15, 2) := by decide +kernel
theorem dX11_leak_116 : decode cX11_leak 116 = .ok (.iload 8, 2) := by decide +kernel
theorem dX11_leak_118 : decode cX11_leak 118 = .ok (.iadd, 1) := by decide +kernel
theorem dX11_leak_119 : decode cX11_leak 119 = .ok (.iaload, 1) := by decide +kernel
theorem dX11_leak_120 : decode cX11_leak 120 = .ok (.ifCond .le 7, 3) := by decide +kernel
theorem dX11_leak_123 : decode cX11_leak 123 = .ok (.iconst 1, 1) := by decide +kernel
theorem dX11_leak_124 : decode cX11_leak 124 = .ok (.goto 4, 3) := by decide +kernel
theorem dX11_leak_127 : decode cX11_leak 127 = .ok (.iconst 0, 1) := by decide +kernel
theorem dX11_leak_128 : decode cX11_leak 128 = .ok (.isub, 1) := by decide +kernel
theorem dX11_leak_129 : decode cX11_leak 129 = .ok (.iastore, 1) := by decide +kernel
theorem dX11_leak_130 : decode cX11_leak 130 = .ok (.iinc 8 1, 3) := by decide +kernel
theorem dX11_leak_133 : decode cX11_leak 133 = .ok (.goto (-76), 3) := by decide +kernel
theorem dX11_leak_136 : decode cX11_leak 136 = .ok (.aload_n 0, 1) := by decide +kernel
theorem dX11_leak_137 : decode cX11_leak 137 = .ok (.iconst 1, 1) := by decide +kernel
theorem dX11_leak_138 : decode cX11_leak 138 = .ok (.bipush 15, 2) := by decide +kernel
theorem dX11_leak_140 : decode cX11_leak 140 = .ok (.invokevirtual 167, 3) := by decide +kernel
theorem dX11_leak_143 : decode cX11_leak 143 = .ok (.iload 5, 2) := by decide +kernel
theorem dX11_leak_145 : decode cX11_leak 145 = .ok (.iload 7, 2) := by decide +kernel
theorem dX11_leak_147 : decode cX11_leak 147 = .ok (.iadd, 1) := by decide +kernel
theorem dX11_leak_148 : decode cX11_leak 148 = .ok (.istore 5, 2) := by decide +kernel
theorem dX11_leak_150 : decode cX11_leak 150 = .ok (.iload 4, 2) := by decide +kernel
theorem dX11_leak_152 : decode cX11_leak 152 = .ok (.aload_n 0, 1) := by decide +kernel
theorem dX11_leak_153 : decode cX11_leak 153 = .ok (.iconst 1, 1) := by decide +kernel
theorem dX11_leak_154 : decode cX11_leak 154 = .ok (.invokevirtual 161, 3) := by decide +kernel
theorem dX11_leak_157 : decode cX11_leak 157 = .ok (.iload_n 1, 1) := by decide +kernel
theorem dX11_leak_158 : decode cX11_leak 158 = .ok (.if_icmp .lt 8, 3) := by decide +kernel
theorem dX11_leak_161 : decode cX11_leak 161 = .ok (.iload 7, 2) := by decide +kernel
theorem dX11_leak_163 : decode cX11_leak 163 = .ok (.goto 4, 3) := by decide +kernel
theorem dX11_leak_166 : decode cX11_leak 166 = .ok (.iconst 0, 1) := by decide +kernel
theorem dX11_leak_167 : decode cX11_leak 167 = .ok (.iadd, 1) := by decide +kernel
theorem dX11_leak_168 : decode cX11_leak 168 = .ok (.istore 4, 2) := by decide +kernel
theorem dX11_leak_170 : decode cX11_leak 170 = .ok (.iinc 6 1, 3) := by decide +kernel
theorem dX11_leak_173 : decode cX11_leak 173 = .ok (.goto (-137), 3) := by decide +kernel
theorem dX11_leak_176 : decode cX11_leak 176 = .ok (.iload 4, 2) := by decide +kernel
theorem dX11_leak_178 : decode cX11_leak 178 = .ok (.iload 5, 2) := by decide +kernel
theorem dX11_leak_180 : decode cX11_leak 180 = .ok (.invokestatic 209, 3) := by decide +kernel
theorem dX11_leak_183 : decode cX11_leak 183 = .ok (.istore 6, 2) := by decide +kernel
theorem dX11_leak_185 : decode cX11_leak 185 = .ok (.iload_n 3, 1) := by decide +kernel
theorem dX11_leak_186 : decode cX11_leak 186 = .ok (.ifCond .eq 11, 3) := by decide +kernel
theorem dX11_leak_189 : decode cX11_leak 189 = .ok (.iload 4, 2) := by decide +kernel
theorem dX11_leak_191 : decode cX11_leak 191 = .ok (.iload 6, 2) := by decide +kernel
theorem dX11_leak_193 : decode cX11_leak 193 = .ok (.idiv, 1) := by decide +kernel
theorem dX11_leak_194 : decode cX11_leak 194 = .ok (.goto 8, 3) := by decide +kernel
theorem dX11_leak_197 : decode cX11_leak 197 = .ok (.iload 5, 2) := by decide +kernel
theorem dX11_leak_199 : decode cX11_leak 199 = .ok (.iload 6, 2) := by decide +kernel
theorem dX11_leak_201 : decode cX11_leak 201 = .ok (.idiv, 1) := by decide +kernel
theorem dX11_leak_202 : decode cX11_leak 202 = .ok (.ireturn, 1) := by decide +kernel
theorem dX11_seed_0 : decode cX11_seed 0 = .ok (.aload_n 0, 1) := by decide +kernel
theorem dX11_seed_1 : decode cX11_seed 1 = .ok (.getfield 224, 3) := by decide +kernel
theorem dX11_seed_4 : decode cX11_seed 4 = .ok (.lstore_n 3, 1) := by decide +kernel
theorem dX11_seed_5 : decode cX11_seed 5 = .ok (.aload_n 0, 1) := by decide +kernel
theorem dX11_seed_6 : decode cX11_seed 6 = .ok (.lload_n 1, 1) := by decide +kernel
theorem dX11_seed_7 : decode cX11_seed 7 = .ok (.putfield 224, 3) := by decide +kernel
theorem dX11_seed_10 : decode cX11_seed 10 = .ok (.lload_n 3, 1) := by decide +kernel
theorem dX11_seed_11 : decode cX11_seed 11 = .ok (.lreturn, 1) := by decide +kernel
theorem dX11_nights_0 : decode cX11_nights 0 = .ok (.iload_n 1, 1) := by decide +kernel
theorem dX11_nights_1 : decode cX11_nights 1 = .ok (.i2l, 1) := by decide +kernel
theorem dX11_nights_2 : decode cX11_nights 2 = .ok (.lconst 1, 1) := by decide +kernel
theorem dX11_nights_3 : decode cX11_nights 3 = .ok (.ldc2_w 228, 3) := by decide +kernel
theorem dX11_nights_6 : decode cX11_nights 6 = .ok (.invokestatic 62, 3) := by decide +kernel
theorem dX11_nights_9 : decode cX11_nights 9 = .ok (.ifCond .ne 6, 3) := by decide +kernel
theorem dX11_nights_12 : decode cX11_nights 12 = .ok (.bipush (-2), 2) := by decide +kernel
theorem dX11_nights_14 : decode cX11_nights 14 = .ok (.ireturn, 1) := by decide +kernel
theorem dX11_nights_15 : decode cX11_nights 15 = .ok (.aload_n 0, 1) := by decide +kernel
theorem dX11_nights_16 : decode cX11_nights 16 = .ok (.invokevirtual 164, 3) := by decide +kernel
theorem dX11_nights_19 : decode cX11_nights 19 = .ok (.iconst 0, 1) := by decide +kernel
theorem dX11_nights_20 : decode cX11_nights 20 = .ok (.istore_n 2, 1) := by decide +kernel
theorem dX11_nights_21 : decode cX11_nights 21 = .ok (.iconst 0, 1) := by decide +kernel
theorem dX11_nights_22 : decode cX11_nights 22 = .ok (.istore_n 3, 1) := by decide +kernel
theorem dX11_nights_23 : decode cX11_nights 23 = .ok (.iload_n 3, 1) := by decide +kernel
theorem dX11_nights_24 : decode cX11_nights 24 = .ok (.iload_n 1, 1) := by decide +kernel
theorem dX11_nights_25 : decode cX11_nights 25 = .ok (.if_icmp .ge 117, 3) := by decide +kernel
theorem dX11_nights_28 : decode cX11_nights 28 = .ok (.aload_n 0, 1) := by decide +kernel
theorem dX11_nights_29 : decode cX11_nights 29 = .ok (.aload_n 0, 1) := by decide +kernel
theorem dX11_nights_30 : decode cX11_nights 30 = .ok (.getfield 224, 3) := by decide +kernel
theorem dX11_nights_33 : decode cX11_nights 33 = .ok (.ldc2_w 230, 3) := by decide +kernel
theorem dX11_nights_36 : decode cX11_nights 36 = .ok (.lmul, 1) := by decide +kernel
theorem dX11_nights_37 : decode cX11_nights 37 = .ok (.ldc2_w 232, 3) := by decide +kernel
theorem dX11_nights_40 : decode cX11_nights 40 = .ok (.ladd, 1) := by decide +kernel
theorem dX11_nights_41 : decode cX11_nights 41 = .ok (.putfield 224, 3) := by decide +kernel
theorem dX11_nights_44 : decode cX11_nights 44 = .ok (.aload_n 0, 1) := by decide +kernel
theorem dX11_nights_45 : decode cX11_nights 45 = .ok (.getfield 224, 3) := by decide +kernel
theorem dX11_nights_48 : decode cX11_nights 48 = .ok (.bipush 33, 2) := by decide +kernel
theorem dX11_nights_50 : decode cX11_nights 50 = .ok (.lushr, 1) := by decide +kernel
theorem dX11_nights_51 : decode cX11_nights 51 = .ok (.ldc2_w 234, 3) := by decide +kernel
theorem dX11_nights_54 : decode cX11_nights 54 = .ok (.lrem, 1) := by decide +kernel
theorem dX11_nights_55 : decode cX11_nights 55 = .ok (.l2i, 1) := by decide +kernel
theorem dX11_nights_56 : decode cX11_nights 56 = .ok (.istore 4, 2) := by decide +kernel
theorem dX11_nights_58 : decode cX11_nights 58 = .ok (.iload 4, 2) := by decide +kernel
theorem dX11_nights_60 : decode cX11_nights 60 = .ok (.bipush 19, 2) := by decide +kernel
theorem dX11_nights_62 : decode cX11_nights 62 = .ok (.if_icmp .le 11, 3) := by decide +kernel
theorem dX11_nights_65 : decode cX11_nights 65 = .ok (.aload_n 0, 1) := by decide +kernel
theorem dX11_nights_66 : decode cX11_nights 66 = .ok (.iconst 1, 1) := by decide +kernel
theorem dX11_nights_67 : decode cX11_nights 67 = .ok (.invokevirtual 158, 3) := by decide +kernel
theorem dX11_nights_70 : decode cX11_nights 70 = .ok (.goto 58, 3) := by decide +kernel
theorem dX11_nights_73 : decode cX11_nights 73 = .ok (.aload_n 0, 1) := by decide +kernel
theorem dX11_nights_74 : decode cX11_nights 74 = .ok (.iload 4, 2) := by decide +kernel
theorem dX11_nights_76 : decode cX11_nights 76 = .ok (.iconst 5, 1) := by decide +kernel
theorem dX11_nights_77 : decode cX11_nights 77 = .ok (.idiv, 1) := by decide +kernel
theorem dX11_nights_78 : decode cX11_nights 78 = .ok (.invokevirtual 133, 3) := by decide +kernel
theorem dX11_nights_81 : decode cX11_nights 81 = .ok (.ifCond .eq 47, 3) := by decide +kernel
theorem dX11_nights_84 : decode cX11_nights 84 = .ok (.aload_n 0, 1) := by decide +kernel
theorem dX11_nights_85 : decode cX11_nights 85 = .ok (.iload 4, 2) := by decide +kernel
theorem dX11_nights_87 : decode cX11_nights 87 = .ok (.iconst 5, 1) := by decide +kernel
theorem dX11_nights_88 : decode cX11_nights 88 = .ok (.irem, 1) := by decide +kernel
theorem dX11_nights_89 : decode cX11_nights 89 = .ok (.invokevirtual 126, 3) := by decide +kernel
theorem dX11_nights_92 : decode cX11_nights 92 = .ok (.ifCond .eq 36, 3) := by decide +kernel
theorem dX11_nights_95 : decode cX11_nights 95 = .ok (.aload_n 0, 1) := by decide +kernel
theorem dX11_nights_96 : decode cX11_nights 96 = .ok (.getfield 19, 3) := by decide +kernel
theorem dX11_nights_99 : decode cX11_nights 99 = .ok (.iload 4, 2) := by decide +kernel
theorem dX11_nights_101 : decode cX11_nights 101 = .ok (.iconst 5, 1) := by decide +kernel
theorem dX11_nights_102 : decode cX11_nights 102 = .ok (.idiv, 1) := by decide +kernel
theorem dX11_nights_103 : decode cX11_nights 103 = .ok (.iaload, 1) := by decide +kernel
theorem dX11_nights_104 : decode cX11_nights 104 = .ok (.iload 4, 2) := by decide +kernel
theorem dX11_nights_106 : decode cX11_nights 106 = .ok (.iconst 5, 1) := by decide +kernel
theorem dX11_nights_107 : decode cX11_nights 107 = .ok (.irem, 1) := by decide +kernel
theorem dX11_nights_108 : decode cX11_nights 108 = .ok (.invokestatic 77, 3) := by decide +kernel
theorem dX11_nights_111 : decode cX11_nights 111 = .ok (.ifCond .eq 17, 3) := by decide +kernel
theorem dX11_nights_114 : decode cX11_nights 114 = .ok (.aload_n 0, 1) := by decide +kernel
theorem dX11_nights_115 : decode cX11_nights 115 = .ok (.iconst 1, 1) := by decide +kernel
theorem dX11_nights_116 : decode cX11_nights 116 = .ok (.iload 4, 2) := by decide +kernel
theorem dX11_nights_118 : decode cX11_nights 118 = .ok (.iconst 5, 1) := by decide +kernel
theorem dX11_nights_119 : decode cX11_nights 119 = .ok (.idiv, 1) := by decide +kernel
theorem dX11_nights_120 : decode cX11_nights 120 = .ok (.iload 4, 2) := by decide +kernel
theorem dX11_nights_122 : decode cX11_nights 122 = .ok (.iconst 5, 1) := by decide +kernel
theorem dX11_nights_123 : decode cX11_nights 123 = .ok (.irem, 1) := by decide +kernel
theorem dX11_nights_124 : decode cX11_nights 124 = .ok (.invokevirtual 115, 3) := by decide +kernel
theorem dX11_nights_127 : decode cX11_nights 127 = .ok (.pop, 1) := by decide +kernel
theorem dX11_nights_128 : decode cX11_nights 128 = .ok (.iload_n 2, 1) := by decide +kernel
theorem dX11_nights_129 : decode cX11_nights 129 = .ok (.aload_n 0, 1) := by decide +kernel
theorem dX11_nights_130 : decode cX11_nights 130 = .ok (.iconst 1, 1) := by decide +kernel
theorem dX11_nights_131 : decode cX11_nights 131 = .ok (.invokevirtual 161, 3) := by decide +kernel
theorem dX11_nights_134 : decode cX11_nights 134 = .ok (.iadd, 1) := by decide +kernel
theorem dX11_nights_135 : decode cX11_nights 135 = .ok (.istore_n 2, 1) := by decide +kernel
theorem dX11_nights_136 : decode cX11_nights 136 = .ok (.iinc 3 1, 3) := by decide +kernel
theorem dX11_nights_139 : decode cX11_nights 139 = .ok (.goto (-116), 3) := by decide +kernel
theorem dX11_nights_142 : decode cX11_nights 142 = .ok (.iload_n 2, 1) := by decide +kernel
theorem dX11_nights_143 : decode cX11_nights 143 = .ok (.ireturn, 1) := by decide +kernel
theorem dX11_keep_0 : decode cX11_keep 0 = .ok (.iload_n 1, 1) := by decide +kernel
theorem dX11_keep_1 : decode cX11_keep 1 = .ok (.i2l, 1) := by decide +kernel
theorem dX11_keep_2 : decode cX11_keep 2 = .ok (.lconst 0, 1) := by decide +kernel
theorem dX11_keep_3 : decode cX11_keep 3 = .ok (.lconst 1, 1) := by decide +kernel
theorem dX11_keep_4 : decode cX11_keep 4 = .ok (.invokestatic 62, 3) := by decide +kernel
theorem dX11_keep_7 : decode cX11_keep 7 = .ok (.ifCond .ne 5, 3) := by decide +kernel
theorem dX11_keep_10 : decode cX11_keep 10 = .ok (.iconst (-1), 1) := by decide +kernel
theorem dX11_keep_11 : decode cX11_keep 11 = .ok (.ireturn, 1) := by decide +kernel
theorem dX11_keep_12 : decode cX11_keep 12 = .ok (.aload_n 0, 1) := by decide +kernel
theorem dX11_keep_13 : decode cX11_keep 13 = .ok (.getfield 49, 3) := by decide +kernel
theorem dX11_keep_16 : decode cX11_keep 16 = .ok (.iload_n 1, 1) := by decide +kernel
theorem dX11_keep_17 : decode cX11_keep 17 = .ok (.iconst 1, 1) := by decide +kernel
theorem dX11_keep_18 : decode cX11_keep 18 = .ok (.bastore, 1) := by decide +kernel
theorem dX11_keep_19 : decode cX11_keep 19 = .ok (.iconst 0, 1) := by decide +kernel
theorem dX11_keep_20 : decode cX11_keep 20 = .ok (.istore_n 2, 1) := by decide +kernel
theorem dX11_keep_21 : decode cX11_keep 21 = .ok (.iload_n 2, 1) := by decide +kernel
theorem dX11_keep_22 : decode cX11_keep 22 = .ok (.bipush 15, 2) := by decide +kernel
theorem dX11_keep_24 : decode cX11_keep 24 = .ok (.if_icmp .ge 26, 3) := by decide +kernel
theorem dX11_keep_27 : decode cX11_keep 27 = .ok (.aload_n 0, 1) := by decide +kernel
theorem dX11_keep_28 : decode cX11_keep 28 = .ok (.getfield 53, 3) := by decide +kernel
theorem dX11_keep_31 : decode cX11_keep 31 = .ok (.bipush 15, 2) := by decide +kernel
theorem dX11_keep_33 : decode cX11_keep 33 = .ok (.iload_n 1, 1) := by decide +kernel
theorem dX11_keep_34 : decode cX11_keep 34 = .ok (.imul, 1) := by decide +kernel
theorem dX11_keep_35 : decode cX11_keep 35 = .ok (.iload_n 2, 1) := by decide +kernel
theorem dX11_keep_36 : decode cX11_keep 36 = .ok (.iadd, 1) := by decide +kernel
theorem dX11_keep_37 : decode cX11_keep 37 = .ok (.aload_n 0, 1) := by decide +kernel
theorem dX11_keep_38 : decode cX11_keep 38 = .ok (.getfield 22, 3) := by decide +kernel
theorem dX11_keep_41 : decode cX11_keep 41 = .ok (.iload_n 2, 1) := by decide +kernel
theorem dX11_keep_42 : decode cX11_keep 42 = .ok (.iaload, 1) := by decide +kernel
theorem dX11_keep_43 : decode cX11_keep 43 = .ok (.iastore, 1) := by decide +kernel
theorem dX11_keep_44 : decode cX11_keep 44 = .ok (.iinc 2 1, 3) := by decide +kernel
theorem dX11_keep_47 : decode cX11_keep 47 = .ok (.goto (-26), 3) := by decide +kernel
theorem dX11_keep_50 : decode cX11_keep 50 = .ok (.aload_n 0, 1) := by decide +kernel
theorem dX11_keep_51 : decode cX11_keep 51 = .ok (.getfield 22, 3) := by decide +kernel
theorem dX11_keep_54 : decode cX11_keep 54 = .ok (.bipush 14, 2) := by decide +kernel
theorem dX11_keep_56 : decode cX11_keep 56 = .ok (.iaload, 1) := by decide +kernel
theorem dX11_keep_57 : decode cX11_keep 57 = .ok (.ireturn, 1) := by decide +kernel
theorem dX11_again_0 : decode cX11_again 0 = .ok (.iload_n 1, 1) := by decide +kernel
theorem dX11_again_1 : decode cX11_again 1 = .ok (.i2l, 1) := by decide +kernel
theorem dX11_again_2 : decode cX11_again 2 = .ok (.lconst 0, 1) := by decide +kernel
theorem dX11_again_3 : decode cX11_again 3 = .ok (.lconst 1, 1) := by decide +kernel
theorem dX11_again_4 : decode cX11_again 4 = .ok (.invokestatic 62, 3) := by decide +kernel
theorem dX11_again_7 : decode cX11_again 7 = .ok (.ifCond .ne 5, 3) := by decide +kernel
theorem dX11_again_10 : decode cX11_again 10 = .ok (.iconst (-1), 1) := by decide +kernel
theorem dX11_again_11 : decode cX11_again 11 = .ok (.ireturn, 1) := by decide +kernel
theorem dX11_again_12 : decode cX11_again 12 = .ok (.aload_n 0, 1) := by decide +kernel
theorem dX11_again_13 : decode cX11_again 13 = .ok (.getfield 49, 3) := by decide +kernel
theorem dX11_again_16 : decode cX11_again 16 = .ok (.iload_n 1, 1) := by decide +kernel
theorem dX11_again_17 : decode cX11_again 17 = .ok (.baload, 1) := by decide +kernel
theorem dX11_again_18 : decode cX11_again 18 = .ok (.ifCond .ne 6, 3) := by decide +kernel
theorem dX11_again_21 : decode cX11_again 21 = .ok (.bipush (-3), 2) := by decide +kernel
theorem dX11_again_23 : decode cX11_again 23 = .ok (.ireturn, 1) := by decide +kernel
theorem dX11_again_24 : decode cX11_again 24 = .ok (.iconst 0, 1) := by decide +kernel
theorem dX11_again_25 : decode cX11_again 25 = .ok (.istore_n 2, 1) := by decide +kernel
theorem dX11_again_26 : decode cX11_again 26 = .ok (.iload_n 2, 1) := by decide +kernel
theorem dX11_again_27 : decode cX11_again 27 = .ok (.bipush 15, 2) := by decide +kernel
theorem dX11_again_29 : decode cX11_again 29 = .ok (.if_icmp .ge 26, 3) := by decide +kernel
theorem dX11_again_32 : decode cX11_again 32 = .ok (.aload_n 0, 1) := by decide +kernel
theorem dX11_again_33 : decode cX11_again 33 = .ok (.getfield 22, 3) := by decide +kernel
theorem dX11_again_36 : decode cX11_again 36 = .ok (.iload_n 2, 1) := by decide +kernel
theorem dX11_again_37 : decode cX11_again 37 = .ok (.aload_n 0, 1) := by decide +kernel
theorem dX11_again_38 : decode cX11_again 38 = .ok (.getfield 53, 3) := by decide +kernel
theorem dX11_again_41 : decode cX11_again 41 = .ok (.bipush 15, 2) := by decide +kernel
theorem dX11_again_43 : decode cX11_again 43 = .ok (.iload_n 1, 1) := by decide +kernel
theorem dX11_again_44 : decode cX11_again 44 = .ok (.imul, 1) := by decide +kernel
theorem dX11_again_45 : decode cX11_again 45 = .ok (.iload_n 2, 1) := by decide +kernel
theorem dX11_again_46 : decode cX11_again 46 = .ok (.iadd, 1) := by decide +kernel
theorem dX11_again_47 : decode cX11_again 47 = .ok (.iaload, 1) := by decide +kernel
theorem dX11_again_48 : decode cX11_again 48 = .ok (.iastore, 1) := by decide +kernel
theorem dX11_again_49 : decode cX11_again 49 = .ok (.iinc 2 1, 3) := by decide +kernel
theorem dX11_again_52 : decode cX11_again 52 = .ok (.goto (-26), 3) := by decide +kernel
theorem dX11_again_55 : decode cX11_again 55 = .ok (.aload_n 0, 1) := by decide +kernel
theorem dX11_again_56 : decode cX11_again 56 = .ok (.iconst 0, 1) := by decide +kernel
theorem dX11_again_57 : decode cX11_again 57 = .ok (.putfield 108, 3) := by decide +kernel
theorem dX11_again_60 : decode cX11_again 60 = .ok (.aload_n 0, 1) := by decide +kernel
theorem dX11_again_61 : decode cX11_again 61 = .ok (.getfield 22, 3) := by decide +kernel
theorem dX11_again_64 : decode cX11_again 64 = .ok (.bipush 14, 2) := by decide +kernel
theorem dX11_again_66 : decode cX11_again 66 = .ok (.iaload, 1) := by decide +kernel
theorem dX11_again_67 : decode cX11_again 67 = .ok (.ireturn, 1) := by decide +kernel
theorem dX11_count_0 : decode cX11_count 0 = .ok (.iload_n 1, 1) := by decide +kernel
theorem dX11_count_1 : decode cX11_count 1 = .ok (.tableswitch 93 0 7 #[47, 52, 57, 62, 68, 75, 83, 88], 47) := by decide +kernel
theorem dX11_count_48 : decode cX11_count 48 = .ok (.aload_n 0, 1) := by decide +kernel
theorem dX11_count_49 : decode cX11_count 49 = .ok (.getfield 66, 3) := by decide +kernel
theorem dX11_count_52 : decode cX11_count 52 = .ok (.ireturn, 1) := by decide +kernel
theorem dX11_count_53 : decode cX11_count 53 = .ok (.aload_n 0, 1) := by decide +kernel
theorem dX11_count_54 : decode cX11_count 54 = .ok (.getfield 56, 3) := by decide +kernel
theorem dX11_count_57 : decode cX11_count 57 = .ok (.ireturn, 1) := by decide +kernel
theorem dX11_count_58 : decode cX11_count 58 = .ok (.aload_n 0, 1) := by decide +kernel
theorem dX11_count_59 : decode cX11_count 59 = .ok (.getfield 105, 3) := by decide +kernel
theorem dX11_count_62 : decode cX11_count 62 = .ok (.ireturn, 1) := by decide +kernel
theorem dX11_count_63 : decode cX11_count 63 = .ok (.aload_n 0, 1) := by decide +kernel
theorem dX11_count_64 : decode cX11_count 64 = .ok (.iconst 0, 1) := by decide +kernel
theorem dX11_count_65 : decode cX11_count 65 = .ok (.invokevirtual 161, 3) := by decide +kernel
theorem dX11_count_68 : decode cX11_count 68 = .ok (.ireturn, 1) := by decide +kernel
theorem dX11_count_69 : decode cX11_count 69 = .ok (.aload_n 0, 1) := by decide +kernel
theorem dX11_count_70 : decode cX11_count 70 = .ok (.iconst 0, 1) := by decide +kernel
theorem dX11_count_71 : decode cX11_count 71 = .ok (.iconst 1, 1) := by decide +kernel
theorem dX11_count_72 : decode cX11_count 72 = .ok (.invokevirtual 170, 3) := by decide +kernel
theorem dX11_count_75 : decode cX11_count 75 = .ok (.ireturn, 1) := by decide +kernel
theorem dX11_count_76 : decode cX11_count 76 = .ok (.aload_n 0, 1) := by decide +kernel
theorem dX11_count_77 : decode cX11_count 77 = .ok (.getfield 22, 3) := by decide +kernel
theorem dX11_count_80 : decode cX11_count 80 = .ok (.bipush 14, 2) := by decide +kernel
theorem dX11_count_82 : decode cX11_count 82 = .ok (.iaload, 1) := by decide +kernel
theorem dX11_count_83 : decode cX11_count 83 = .ok (.ireturn, 1) := by decide +kernel
theorem dX11_count_84 : decode cX11_count 84 = .ok (.aload_n 0, 1) := by decide +kernel
theorem dX11_count_85 : decode cX11_count 85 = .ok (.getfield 108, 3) := by decide +kernel
theorem dX11_count_88 : decode cX11_count 88 = .ok (.ireturn, 1) := by decide +kernel
theorem dX11_count_89 : decode cX11_count 89 = .ok (.aload_n 0, 1) := by decide +kernel
theorem dX11_count_90 : decode cX11_count 90 = .ok (.getfield 200, 3) := by decide +kernel
theorem dX11_count_93 : decode cX11_count 93 = .ok (.ireturn, 1) := by decide +kernel
theorem dX11_count_94 : decode cX11_count 94 = .ok (.bipush (-2), 2) := by decide +kernel
theorem dX11_count_96 : decode cX11_count 96 = .ok (.ireturn, 1) := by decide +kernel
end
section
theorem dL_law_0 : decode cL_law 0 = .ok (.new 7, 3) := by decide +kernel
theorem dL_law_3 : decode cL_law 3 = .ok (.dup, 1) := by decide +kernel
theorem dL_law_4 : decode cL_law 4 = .ok (.invokespecial 9, 3) := by decide +kernel
theorem dL_law_7 : decode cL_law 7 = .ok (.astore_n 1, 1) := by decide +kernel
theorem dL_law_8 : decode cL_law 8 = .ok (.new 10, 3) := by decide +kernel
theorem dL_law_11 : decode cL_law 11 = .ok (.dup, 1) := by decide +kernel
theorem dL_law_12 : decode cL_law 12 = .ok (.invokespecial 12, 3) := by decide +kernel
theorem dL_law_15 : decode cL_law 15 = .ok (.astore_n 2, 1) := by decide +kernel
theorem dL_law_16 : decode cL_law 16 = .ok (.iconst 0, 1) := by decide +kernel
theorem dL_law_17 : decode cL_law 17 = .ok (.istore_n 3, 1) := by decide +kernel
theorem dL_law_18 : decode cL_law 18 = .ok (.iload_n 3, 1) := by decide +kernel
theorem dL_law_19 : decode cL_law 19 = .ok (.aload_n 0, 1) := by decide +kernel
theorem dL_law_20 : decode cL_law 20 = .ok (.arraylength, 1) := by decide +kernel
theorem dL_law_21 : decode cL_law 21 = .ok (.iconst 4, 1) := by decide +kernel
theorem dL_law_22 : decode cL_law 22 = .ok (.isub, 1) := by decide +kernel
theorem dL_law_23 : decode cL_law 23 = .ok (.if_icmp .gt 1009, 3) := by decide +kernel
theorem dL_law_26 : decode cL_law 26 = .ok (.aload_n 0, 1) := by decide +kernel
theorem dL_law_27 : decode cL_law 27 = .ok (.iload_n 3, 1) := by decide +kernel
theorem dL_law_28 : decode cL_law 28 = .ok (.iaload, 1) := by decide +kernel
theorem dL_law_29 : decode cL_law 29 = .ok (.bipush 31, 2) := by decide +kernel
theorem dL_law_31 : decode cL_law 31 = .ok (.iand, 1) := by decide +kernel
theorem dL_law_32 : decode cL_law 32 = .ok (.tableswitch 994 0 28 #[132, 155, 168, 181, 194, 227, 260, 293, 326, 359, 372, 385, 408, 431, 480, 493, 532, 555, 618, 661, 674, 697, 746, 789, 848, 902, 925, 948, 971], 132) := by decide +kernel
theorem dL_law_164 : decode cL_law 164 = .ok (.aload_n 1, 1) := by decide +kernel
theorem dL_law_165 : decode cL_law 165 = .ok (.aload_n 0, 1) := by decide +kernel
theorem dL_law_166 : decode cL_law 166 = .ok (.iload_n 3, 1) := by decide +kernel
theorem dL_law_167 : decode cL_law 167 = .ok (.iconst 1, 1) := by decide +kernel
theorem dL_law_168 : decode cL_law 168 = .ok (.iadd, 1) := by decide +kernel
theorem dL_law_169 : decode cL_law 169 = .ok (.iaload, 1) := by decide +kernel
theorem dL_law_170 : decode cL_law 170 = .ok (.invokevirtual 13, 3) := by decide +kernel
theorem dL_law_173 : decode cL_law 173 = .ok (.aload_n 2, 1) := by decide +kernel
theorem dL_law_174 : decode cL_law 174 = .ok (.aload_n 0, 1) := by decide +kernel
theorem dL_law_175 : decode cL_law 175 = .ok (.iload_n 3, 1) := by decide +kernel
theorem dL_law_176 : decode cL_law 176 = .ok (.iconst 1, 1) := by decide +kernel
theorem dL_law_177 : decode cL_law 177 = .ok (.iadd, 1) := by decide +kernel
theorem dL_law_178 : decode cL_law 178 = .ok (.iaload, 1) := by decide +kernel
theorem dL_law_179 : decode cL_law 179 = .ok (.invokevirtual 17, 3) := by decide +kernel
theorem dL_law_182 : decode cL_law 182 = .ok (.if_icmp .eq 844, 3) := by decide +kernel
theorem dL_law_185 : decode cL_law 185 = .ok (.iconst 0, 1) := by decide +kernel
theorem dL_law_186 : decode cL_law 186 = .ok (.ireturn, 1) := by decide +kernel
theorem dL_law_187 : decode cL_law 187 = .ok (.aload_n 1, 1) := by decide +kernel
theorem dL_law_188 : decode cL_law 188 = .ok (.invokevirtual 18, 3) := by decide +kernel
theorem dL_law_191 : decode cL_law 191 = .ok (.aload_n 2, 1) := by decide +kernel
theorem dL_law_192 : decode cL_law 192 = .ok (.invokevirtual 22, 3) := by decide +kernel
theorem dL_law_195 : decode cL_law 195 = .ok (.if_icmp .eq 831, 3) := by decide +kernel
theorem dL_law_198 : decode cL_law 198 = .ok (.iconst 0, 1) := by decide +kernel
theorem dL_law_199 : decode cL_law 199 = .ok (.ireturn, 1) := by decide +kernel
theorem dL_law_200 : decode cL_law 200 = .ok (.aload_n 1, 1) := by decide +kernel
theorem dL_law_201 : decode cL_law 201 = .ok (.invokevirtual 23, 3) := by decide +kernel
theorem dL_law_204 : decode cL_law 204 = .ok (.aload_n 2, 1) := by decide +kernel
theorem dL_law_205 : decode cL_law 205 = .ok (.invokevirtual 26, 3) := by decide +kernel
theorem dL_law_208 : decode cL_law 208 = .ok (.if_icmp .eq 818, 3) := by decide +kernel
theorem dL_law_211 : decode cL_law 211 = .ok (.iconst 0, 1) := by decide +kernel
theorem dL_law_212 : decode cL_law 212 = .ok (.ireturn, 1) := by decide +kernel
theorem dL_law_213 : decode cL_law 213 = .ok (.aload_n 1, 1) := by decide +kernel
theorem dL_law_214 : decode cL_law 214 = .ok (.invokevirtual 27, 3) := by decide +kernel
theorem dL_law_217 : decode cL_law 217 = .ok (.aload_n 2, 1) := by decide +kernel
theorem dL_law_218 : decode cL_law 218 = .ok (.invokevirtual 30, 3) := by decide +kernel
theorem dL_law_221 : decode cL_law 221 = .ok (.if_icmp .eq 805, 3) := by decide +kernel
theorem dL_law_224 : decode cL_law 224 = .ok (.iconst 0, 1) := by decide +kernel
theorem dL_law_225 : decode cL_law 225 = .ok (.ireturn, 1) := by decide +kernel
theorem dL_law_226 : decode cL_law 226 = .ok (.aload_n 1, 1) := by decide +kernel
theorem dL_law_227 : decode cL_law 227 = .ok (.aload_n 0, 1) := by decide +kernel
theorem dL_law_228 : decode cL_law 228 = .ok (.iload_n 3, 1) := by decide +kernel
theorem dL_law_229 : decode cL_law 229 = .ok (.iconst 1, 1) := by decide +kernel
theorem dL_law_230 : decode cL_law 230 = .ok (.iadd, 1) := by decide +kernel
theorem dL_law_231 : decode cL_law 231 = .ok (.iaload, 1) := by decide +kernel
theorem dL_law_232 : decode cL_law 232 = .ok (.aload_n 0, 1) := by decide +kernel
theorem dL_law_233 : decode cL_law 233 = .ok (.iload_n 3, 1) := by decide +kernel
theorem dL_law_234 : decode cL_law 234 = .ok (.iconst 2, 1) := by decide +kernel
theorem dL_law_235 : decode cL_law 235 = .ok (.iadd, 1) := by decide +kernel
theorem dL_law_236 : decode cL_law 236 = .ok (.iaload, 1) := by decide +kernel
theorem dL_law_237 : decode cL_law 237 = .ok (.invokevirtual 31, 3) := by decide +kernel
theorem dL_law_240 : decode cL_law 240 = .ok (.aload_n 2, 1) := by decide +kernel
theorem dL_law_241 : decode cL_law 241 = .ok (.aload_n 0, 1) := by decide +kernel
theorem dL_law_242 : decode cL_law 242 = .ok (.iload_n 3, 1) := by decide +kernel
theorem dL_law_243 : decode cL_law 243 = .ok (.iconst 1, 1) := by decide +kernel
theorem dL_law_244 : decode cL_law 244 = .ok (.iadd, 1) := by decide +kernel
theorem dL_law_245 : decode cL_law 245 = .ok (.iaload, 1) := by decide +kernel
theorem dL_law_246 : decode cL_law 246 = .ok (.aload_n 0, 1) := by decide +kernel
theorem dL_law_247 : decode cL_law 247 = .ok (.iload_n 3, 1) := by decide +kernel
theorem dL_law_248 : decode cL_law 248 = .ok (.iconst 2, 1) := by decide +kernel
theorem dL_law_249 : decode cL_law 249 = .ok (.iadd, 1) := by decide +kernel
theorem dL_law_250 : decode cL_law 250 = .ok (.iaload, 1) := by decide +kernel
theorem dL_law_251 : decode cL_law 251 = .ok (.invokevirtual 35, 3) := by decide +kernel
theorem dL_law_254 : decode cL_law 254 = .ok (.if_icmp .eq 772, 3) := by decide +kernel
theorem dL_law_257 : decode cL_law 257 = .ok (.iconst 0, 1) := by decide +kernel
theorem dL_law_258 : decode cL_law 258 = .ok (.ireturn, 1) := by decide +kernel
theorem dL_law_259 : decode cL_law 259 = .ok (.aload_n 1, 1) := by decide +kernel
theorem dL_law_260 : decode cL_law 260 = .ok (.aload_n 0, 1) := by decide +kernel
theorem dL_law_261 : decode cL_law 261 = .ok (.iload_n 3, 1) := by decide +kernel
theorem dL_law_262 : decode cL_law 262 = .ok (.iconst 1, 1) := by decide +kernel
theorem dL_law_263 : decode cL_law 263 = .ok (.iadd, 1) := by decide +kernel
theorem dL_law_264 : decode cL_law 264 = .ok (.iaload, 1) := by decide +kernel
theorem dL_law_265 : decode cL_law 265 = .ok (.aload_n 0, 1) := by decide +kernel
theorem dL_law_266 : decode cL_law 266 = .ok (.iload_n 3, 1) := by decide +kernel
theorem dL_law_267 : decode cL_law 267 = .ok (.iconst 2, 1) := by decide +kernel
theorem dL_law_268 : decode cL_law 268 = .ok (.iadd, 1) := by decide +kernel
theorem dL_law_269 : decode cL_law 269 = .ok (.iaload, 1) := by decide +kernel
theorem dL_law_270 : decode cL_law 270 = .ok (.invokevirtual 36, 3) := by decide +kernel
theorem dL_law_273 : decode cL_law 273 = .ok (.aload_n 2, 1) := by decide +kernel
theorem dL_law_274 : decode cL_law 274 = .ok (.aload_n 0, 1) := by decide +kernel
theorem dL_law_275 : decode cL_law 275 = .ok (.iload_n 3, 1) := by decide +kernel
theorem dL_law_276 : decode cL_law 276 = .ok (.iconst 1, 1) := by decide +kernel
theorem dL_law_277 : decode cL_law 277 = .ok (.iadd, 1) := by decide +kernel
theorem dL_law_278 : decode cL_law 278 = .ok (.iaload, 1) := by decide +kernel
theorem dL_law_279 : decode cL_law 279 = .ok (.aload_n 0, 1) := by decide +kernel
theorem dL_law_280 : decode cL_law 280 = .ok (.iload_n 3, 1) := by decide +kernel
theorem dL_law_281 : decode cL_law 281 = .ok (.iconst 2, 1) := by decide +kernel
theorem dL_law_282 : decode cL_law 282 = .ok (.iadd, 1) := by decide +kernel
theorem dL_law_283 : decode cL_law 283 = .ok (.iaload, 1) := by decide +kernel
theorem dL_law_284 : decode cL_law 284 = .ok (.invokevirtual 39, 3) := by decide +kernel
theorem dL_law_287 : decode cL_law 287 = .ok (.if_icmp .eq 739, 3) := by decide +kernel
theorem dL_law_290 : decode cL_law 290 = .ok (.iconst 0, 1) := by decide +kernel
theorem dL_law_291 : decode cL_law 291 = .ok (.ireturn, 1) := by decide +kernel
theorem dL_law_292 : decode cL_law 292 = .ok (.aload_n 1, 1) := by decide +kernel
theorem dL_law_293 : decode cL_law 293 = .ok (.aload_n 0, 1) := by decide +kernel
theorem dL_law_294 : decode cL_law 294 = .ok (.iload_n 3, 1) := by decide +kernel
theorem dL_law_295 : decode cL_law 295 = .ok (.iconst 1, 1) := by decide +kernel
theorem dL_law_296 : decode cL_law 296 = .ok (.iadd, 1) := by decide +kernel
theorem dL_law_297 : decode cL_law 297 = .ok (.iaload, 1) := by decide +kernel
theorem dL_law_298 : decode cL_law 298 = .ok (.aload_n 0, 1) := by decide +kernel
theorem dL_law_299 : decode cL_law 299 = .ok (.iload_n 3, 1) := by decide +kernel
theorem dL_law_300 : decode cL_law 300 = .ok (.iconst 2, 1) := by decide +kernel
theorem dL_law_301 : decode cL_law 301 = .ok (.iadd, 1) := by decide +kernel
theorem dL_law_302 : decode cL_law 302 = .ok (.iaload, 1) := by decide +kernel
theorem dL_law_303 : decode cL_law 303 = .ok (.invokevirtual 40, 3) := by decide +kernel
theorem dL_law_306 : decode cL_law 306 = .ok (.aload_n 2, 1) := by decide +kernel
theorem dL_law_307 : decode cL_law 307 = .ok (.aload_n 0, 1) := by decide +kernel
theorem dL_law_308 : decode cL_law 308 = .ok (.iload_n 3, 1) := by decide +kernel
theorem dL_law_309 : decode cL_law 309 = .ok (.iconst 1, 1) := by decide +kernel
theorem dL_law_310 : decode cL_law 310 = .ok (.iadd, 1) := by decide +kernel
theorem dL_law_311 : decode cL_law 311 = .ok (.iaload, 1) := by decide +kernel
theorem dL_law_312 : decode cL_law 312 = .ok (.aload_n 0, 1) := by decide +kernel
theorem dL_law_313 : decode cL_law 313 = .ok (.iload_n 3, 1) := by decide +kernel
theorem dL_law_314 : decode cL_law 314 = .ok (.iconst 2, 1) := by decide +kernel
theorem dL_law_315 : decode cL_law 315 = .ok (.iadd, 1) := by decide +kernel
theorem dL_law_316 : decode cL_law 316 = .ok (.iaload, 1) := by decide +kernel
theorem dL_law_317 : decode cL_law 317 = .ok (.invokevirtual 43, 3) := by decide +kernel
theorem dL_law_320 : decode cL_law 320 = .ok (.if_icmp .eq 706, 3) := by decide +kernel
theorem dL_law_323 : decode cL_law 323 = .ok (.iconst 0, 1) := by decide +kernel
theorem dL_law_324 : decode cL_law 324 = .ok (.ireturn, 1) := by decide +kernel
theorem dL_law_325 : decode cL_law 325 = .ok (.aload_n 1, 1) := by decide +kernel
theorem dL_law_326 : decode cL_law 326 = .ok (.aload_n 0, 1) := by decide +kernel
theorem dL_law_327 : decode cL_law 327 = .ok (.iload_n 3, 1) := by decide +kernel
theorem dL_law_328 : decode cL_law 328 = .ok (.iconst 1, 1) := by decide +kernel
theorem dL_law_329 : decode cL_law 329 = .ok (.iadd, 1) := by decide +kernel
theorem dL_law_330 : decode cL_law 330 = .ok (.iaload, 1) := by decide +kernel
theorem dL_law_331 : decode cL_law 331 = .ok (.aload_n 0, 1) := by decide +kernel
theorem dL_law_332 : decode cL_law 332 = .ok (.iload_n 3, 1) := by decide +kernel
theorem dL_law_333 : decode cL_law 333 = .ok (.iconst 2, 1) := by decide +kernel
theorem dL_law_334 : decode cL_law 334 = .ok (.iadd, 1) := by decide +kernel
theorem dL_law_335 : decode cL_law 335 = .ok (.iaload, 1) := by decide +kernel
theorem dL_law_336 : decode cL_law 336 = .ok (.invokevirtual 44, 3) := by decide +kernel
theorem dL_law_339 : decode cL_law 339 = .ok (.aload_n 2, 1) := by decide +kernel
theorem dL_law_340 : decode cL_law 340 = .ok (.aload_n 0, 1) := by decide +kernel
theorem dL_law_341 : decode cL_law 341 = .ok (.iload_n 3, 1) := by decide +kernel
theorem dL_law_342 : decode cL_law 342 = .ok (.iconst 1, 1) := by decide +kernel
theorem dL_law_343 : decode cL_law 343 = .ok (.iadd, 1) := by decide +kernel
theorem dL_law_344 : decode cL_law 344 = .ok (.iaload, 1) := by decide +kernel
theorem dL_law_345 : decode cL_law 345 = .ok (.aload_n 0, 1) := by decide +kernel
theorem dL_law_346 : decode cL_law 346 = .ok (.iload_n 3, 1) := by decide +kernel
theorem dL_law_347 : decode cL_law 347 = .ok (.iconst 2, 1) := by decide +kernel
theorem dL_law_348 : decode cL_law 348 = .ok (.iadd, 1) := by decide +kernel
theorem dL_law_349 : decode cL_law 349 = .ok (.iaload, 1) := by decide +kernel
theorem dL_law_350 : decode cL_law 350 = .ok (.invokevirtual 47, 3) := by decide +kernel
theorem dL_law_353 : decode cL_law 353 = .ok (.if_icmp .eq 673, 3) := by decide +kernel
theorem dL_law_356 : decode cL_law 356 = .ok (.iconst 0, 1) := by decide +kernel
theorem dL_law_357 : decode cL_law 357 = .ok (.ireturn, 1) := by decide +kernel
theorem dL_law_358 : decode cL_law 358 = .ok (.aload_n 1, 1) := by decide +kernel
theorem dL_law_359 : decode cL_law 359 = .ok (.aload_n 0, 1) := by decide +kernel
theorem dL_law_360 : decode cL_law 360 = .ok (.iload_n 3, 1) := by decide +kernel
theorem dL_law_361 : decode cL_law 361 = .ok (.iconst 1, 1) := by decide +kernel
theorem dL_law_362 : decode cL_law 362 = .ok (.iadd, 1) := by decide +kernel
theorem dL_law_363 : decode cL_law 363 = .ok (.iaload, 1) := by decide +kernel
theorem dL_law_364 : decode cL_law 364 = .ok (.aload_n 0, 1) := by decide +kernel
theorem dL_law_365 : decode cL_law 365 = .ok (.iload_n 3, 1) := by decide +kernel
theorem dL_law_366 : decode cL_law 366 = .ok (.iconst 2, 1) := by decide +kernel
theorem dL_law_367 : decode cL_law 367 = .ok (.iadd, 1) := by decide +kernel
theorem dL_law_368 : decode cL_law 368 = .ok (.iaload, 1) := by decide +kernel
theorem dL_law_369 : decode cL_law 369 = .ok (.invokevirtual 48, 3) := by decide +kernel
theorem dL_law_372 : decode cL_law 372 = .ok (.aload_n 2, 1) := by decide +kernel
theorem dL_law_373 : decode cL_law 373 = .ok (.aload_n 0, 1) := by decide +kernel
theorem dL_law_374 : decode cL_law 374 = .ok (.iload_n 3, 1) := by decide +kernel
theorem dL_law_375 : decode cL_law 375 = .ok (.iconst 1, 1) := by decide +kernel
theorem dL_law_376 : decode cL_law 376 = .ok (.iadd, 1) := by decide +kernel
theorem dL_law_377 : decode cL_law 377 = .ok (.iaload, 1) := by decide +kernel
theorem dL_law_378 : decode cL_law 378 = .ok (.aload_n 0, 1) := by decide +kernel
theorem dL_law_379 : decode cL_law 379 = .ok (.iload_n 3, 1) := by decide +kernel
theorem dL_law_380 : decode cL_law 380 = .ok (.iconst 2, 1) := by decide +kernel
theorem dL_law_381 : decode cL_law 381 = .ok (.iadd, 1) := by decide +kernel
theorem dL_law_382 : decode cL_law 382 = .ok (.iaload, 1) := by decide +kernel
theorem dL_law_383 : decode cL_law 383 = .ok (.invokevirtual 51, 3) := by decide +kernel
theorem dL_law_386 : decode cL_law 386 = .ok (.if_icmp .eq 640, 3) := by decide +kernel
theorem dL_law_389 : decode cL_law 389 = .ok (.iconst 0, 1) := by decide +kernel
theorem dL_law_390 : decode cL_law 390 = .ok (.ireturn, 1) := by decide +kernel
theorem dL_law_391 : decode cL_law 391 = .ok (.aload_n 1, 1) := by decide +kernel
theorem dL_law_392 : decode cL_law 392 = .ok (.invokevirtual 52, 3) := by decide +kernel
theorem dL_law_395 : decode cL_law 395 = .ok (.aload_n 2, 1) := by decide +kernel
theorem dL_law_396 : decode cL_law 396 = .ok (.invokevirtual 55, 3) := by decide +kernel
theorem dL_law_399 : decode cL_law 399 = .ok (.if_icmp .eq 627, 3) := by decide +kernel
theorem dL_law_402 : decode cL_law 402 = .ok (.iconst 0, 1) := by decide +kernel
theorem dL_law_403 : decode cL_law 403 = .ok (.ireturn, 1) := by decide +kernel
theorem dL_law_404 : decode cL_law 404 = .ok (.aload_n 1, 1) := by decide +kernel
theorem dL_law_405 : decode cL_law 405 = .ok (.invokevirtual 56, 3) := by decide +kernel
theorem dL_law_408 : decode cL_law 408 = .ok (.aload_n 2, 1) := by decide +kernel
theorem dL_law_409 : decode cL_law 409 = .ok (.invokevirtual 59, 3) := by decide +kernel
theorem dL_law_412 : decode cL_law 412 = .ok (.if_icmp .eq 614, 3) := by decide +kernel
theorem dL_law_415 : decode cL_law 415 = .ok (.iconst 0, 1) := by decide +kernel
theorem dL_law_416 : decode cL_law 416 = .ok (.ireturn, 1) := by decide +kernel
theorem dL_law_417 : decode cL_law 417 = .ok (.aload_n 1, 1) := by decide +kernel
theorem dL_law_418 : decode cL_law 418 = .ok (.aload_n 0, 1) := by decide +kernel
theorem dL_law_419 : decode cL_law 419 = .ok (.iload_n 3, 1) := by decide +kernel
theorem dL_law_420 : decode cL_law 420 = .ok (.iconst 1, 1) := by decide +kernel
theorem dL_law_421 : decode cL_law 421 = .ok (.iadd, 1) := by decide +kernel
theorem dL_law_422 : decode cL_law 422 = .ok (.iaload, 1) := by decide +kernel
theorem dL_law_423 : decode cL_law 423 = .ok (.invokevirtual 60, 3) := by decide +kernel
theorem dL_law_426 : decode cL_law 426 = .ok (.aload_n 2, 1) := by decide +kernel
theorem dL_law_427 : decode cL_law 427 = .ok (.aload_n 0, 1) := by decide +kernel
theorem dL_law_428 : decode cL_law 428 = .ok (.iload_n 3, 1) := by decide +kernel
theorem dL_law_429 : decode cL_law 429 = .ok (.iconst 1, 1) := by decide +kernel
theorem dL_law_430 : decode cL_law 430 = .ok (.iadd, 1) := by decide +kernel
theorem dL_law_431 : decode cL_law 431 = .ok (.iaload, 1) := by decide +kernel
theorem dL_law_432 : decode cL_law 432 = .ok (.invokevirtual 63, 3) := by decide +kernel
theorem dL_law_435 : decode cL_law 435 = .ok (.if_icmp .eq 591, 3) := by decide +kernel
theorem dL_law_438 : decode cL_law 438 = .ok (.iconst 0, 1) := by decide +kernel
theorem dL_law_439 : decode cL_law 439 = .ok (.ireturn, 1) := by decide +kernel
theorem dL_law_440 : decode cL_law 440 = .ok (.aload_n 1, 1) := by decide +kernel
theorem dL_law_441 : decode cL_law 441 = .ok (.aload_n 0, 1) := by decide +kernel
theorem dL_law_442 : decode cL_law 442 = .ok (.iload_n 3, 1) := by decide +kernel
theorem dL_law_443 : decode cL_law 443 = .ok (.iconst 1, 1) := by decide +kernel
theorem dL_law_444 : decode cL_law 444 = .ok (.iadd, 1) := by decide +kernel
theorem dL_law_445 : decode cL_law 445 = .ok (.iaload, 1) := by decide +kernel
theorem dL_law_446 : decode cL_law 446 = .ok (.invokevirtual 64, 3) := by decide +kernel
theorem dL_law_449 : decode cL_law 449 = .ok (.aload_n 2, 1) := by decide +kernel
theorem dL_law_450 : decode cL_law 450 = .ok (.aload_n 0, 1) := by decide +kernel
theorem dL_law_451 : decode cL_law 451 = .ok (.iload_n 3, 1) := by decide +kernel
theorem dL_law_452 : decode cL_law 452 = .ok (.iconst 1, 1) := by decide +kernel
theorem dL_law_453 : decode cL_law 453 = .ok (.iadd, 1) := by decide +kernel
theorem dL_law_454 : decode cL_law 454 = .ok (.iaload, 1) := by decide +kernel
theorem dL_law_455 : decode cL_law 455 = .ok (.invokevirtual 67, 3) := by decide +kernel
theorem dL_law_458 : decode cL_law 458 = .ok (.if_icmp .eq 568, 3) := by decide +kernel
theorem dL_law_461 : decode cL_law 461 = .ok (.iconst 0, 1) := by decide +kernel
theorem dL_law_462 : decode cL_law 462 = .ok (.ireturn, 1) := by decide +kernel
theorem dL_law_463 : decode cL_law 463 = .ok (.aload_n 1, 1) := by decide +kernel
theorem dL_law_464 : decode cL_law 464 = .ok (.aload_n 0, 1) := by decide +kernel
theorem dL_law_465 : decode cL_law 465 = .ok (.iload_n 3, 1) := by decide +kernel
theorem dL_law_466 : decode cL_law 466 = .ok (.iconst 1, 1) := by decide +kernel
theorem dL_law_467 : decode cL_law 467 = .ok (.iadd, 1) := by decide +kernel
theorem dL_law_468 : decode cL_law 468 = .ok (.iaload, 1) := by decide +kernel
theorem dL_law_469 : decode cL_law 469 = .ok (.aload_n 0, 1) := by decide +kernel
theorem dL_law_470 : decode cL_law 470 = .ok (.iload_n 3, 1) := by decide +kernel
theorem dL_law_471 : decode cL_law 471 = .ok (.iconst 2, 1) := by decide +kernel
theorem dL_law_472 : decode cL_law 472 = .ok (.iadd, 1) := by decide +kernel
theorem dL_law_473 : decode cL_law 473 = .ok (.iaload, 1) := by decide +kernel
theorem dL_law_474 : decode cL_law 474 = .ok (.ifCond .eq 7, 3) := by decide +kernel
theorem dL_law_477 : decode cL_law 477 = .ok (.iconst 1, 1) := by decide +kernel
theorem dL_law_478 : decode cL_law 478 = .ok (.goto 4, 3) := by decide +kernel
theorem dL_law_481 : decode cL_law 481 = .ok (.iconst 0, 1) := by decide +kernel
theorem dL_law_482 : decode cL_law 482 = .ok (.invokevirtual 68, 3) := by decide +kernel
theorem dL_law_485 : decode cL_law 485 = .ok (.aload_n 2, 1) := by decide +kernel
theorem dL_law_486 : decode cL_law 486 = .ok (.aload_n 0, 1) := by decide +kernel
theorem dL_law_487 : decode cL_law 487 = .ok (.iload_n 3, 1) := by decide +kernel
theorem dL_law_488 : decode cL_law 488 = .ok (.iconst 1, 1) := by decide +kernel
theorem dL_law_489 : decode cL_law 489 = .ok (.iadd, 1) := by decide +kernel
theorem dL_law_490 : decode cL_law 490 = .ok (.iaload, 1) := by decide +kernel
theorem dL_law_491 : decode cL_law 491 = .ok (.aload_n 0, 1) := by decide +kernel
theorem dL_law_492 : decode cL_law 492 = .ok (.iload_n 3, 1) := by decide +kernel
theorem dL_law_493 : decode cL_law 493 = .ok (.iconst 2, 1) := by decide +kernel
theorem dL_law_494 : decode cL_law 494 = .ok (.iadd, 1) := by decide +kernel
theorem dL_law_495 : decode cL_law 495 = .ok (.iaload, 1) := by decide +kernel
theorem dL_law_496 : decode cL_law 496 = .ok (.ifCond .eq 7, 3) := by decide +kernel
theorem dL_law_499 : decode cL_law 499 = .ok (.iconst 1, 1) := by decide +kernel
theorem dL_law_500 : decode cL_law 500 = .ok (.goto 4, 3) := by decide +kernel
theorem dL_law_503 : decode cL_law 503 = .ok (.iconst 0, 1) := by decide +kernel
theorem dL_law_504 : decode cL_law 504 = .ok (.invokevirtual 72, 3) := by decide +kernel
theorem dL_law_507 : decode cL_law 507 = .ok (.if_icmp .eq 519, 3) := by decide +kernel
theorem dL_law_510 : decode cL_law 510 = .ok (.iconst 0, 1) := by decide +kernel
theorem dL_law_511 : decode cL_law 511 = .ok (.ireturn, 1) := by decide +kernel
theorem dL_law_512 : decode cL_law 512 = .ok (.aload_n 1, 1) := by decide +kernel
theorem dL_law_513 : decode cL_law 513 = .ok (.invokevirtual 73, 3) := by decide +kernel
theorem dL_law_516 : decode cL_law 516 = .ok (.aload_n 2, 1) := by decide +kernel
theorem dL_law_517 : decode cL_law 517 = .ok (.invokevirtual 76, 3) := by decide +kernel
theorem dL_law_520 : decode cL_law 520 = .ok (.if_icmp .eq 506, 3) := by decide +kernel
theorem dL_law_523 : decode cL_law 523 = .ok (.iconst 0, 1) := by decide +kernel
theorem dL_law_524 : decode cL_law 524 = .ok (.ireturn, 1) := by decide +kernel
theorem dL_law_525 : decode cL_law 525 = .ok (.aload_n 1, 1) := by decide +kernel
theorem dL_law_526 : decode cL_law 526 = .ok (.aload_n 0, 1) := by decide +kernel
theorem dL_law_527 : decode cL_law 527 = .ok (.iload_n 3, 1) := by decide +kernel
theorem dL_law_528 : decode cL_law 528 = .ok (.iconst 1, 1) := by decide +kernel
theorem dL_law_529 : decode cL_law 529 = .ok (.iadd, 1) := by decide +kernel
theorem dL_law_530 : decode cL_law 530 = .ok (.iaload, 1) := by decide +kernel
theorem dL_law_531 : decode cL_law 531 = .ok (.ifCond .eq 7, 3) := by decide +kernel
theorem dL_law_534 : decode cL_law 534 = .ok (.iconst 1, 1) := by decide +kernel
theorem dL_law_535 : decode cL_law 535 = .ok (.goto 4, 3) := by decide +kernel
theorem dL_law_538 : decode cL_law 538 = .ok (.iconst 0, 1) := by decide +kernel
theorem dL_law_539 : decode cL_law 539 = .ok (.invokevirtual 77, 3) := by decide +kernel
theorem dL_law_542 : decode cL_law 542 = .ok (.aload_n 2, 1) := by decide +kernel
theorem dL_law_543 : decode cL_law 543 = .ok (.aload_n 0, 1) := by decide +kernel
theorem dL_law_544 : decode cL_law 544 = .ok (.iload_n 3, 1) := by decide +kernel
theorem dL_law_545 : decode cL_law 545 = .ok (.iconst 1, 1) := by decide +kernel
theorem dL_law_546 : decode cL_law 546 = .ok (.iadd, 1) := by decide +kernel
theorem dL_law_547 : decode cL_law 547 = .ok (.iaload, 1) := by decide +kernel
theorem dL_law_548 : decode cL_law 548 = .ok (.ifCond .eq 7, 3) := by decide +kernel
theorem dL_law_551 : decode cL_law 551 = .ok (.iconst 1, 1) := by decide +kernel
theorem dL_law_552 : decode cL_law 552 = .ok (.goto 4, 3) := by decide +kernel
theorem dL_law_555 : decode cL_law 555 = .ok (.iconst 0, 1) := by decide +kernel
theorem dL_law_556 : decode cL_law 556 = .ok (.invokevirtual 81, 3) := by decide +kernel
theorem dL_law_559 : decode cL_law 559 = .ok (.if_icmp .eq 467, 3) := by decide +kernel
theorem dL_law_562 : decode cL_law 562 = .ok (.iconst 0, 1) := by decide +kernel
theorem dL_law_563 : decode cL_law 563 = .ok (.ireturn, 1) := by decide +kernel
theorem dL_law_564 : decode cL_law 564 = .ok (.aload_n 1, 1) := by decide +kernel
theorem dL_law_565 : decode cL_law 565 = .ok (.aload_n 0, 1) := by decide +kernel
theorem dL_law_566 : decode cL_law 566 = .ok (.iload_n 3, 1) := by decide +kernel
theorem dL_law_567 : decode cL_law 567 = .ok (.iconst 1, 1) := by decide +kernel
theorem dL_law_568 : decode cL_law 568 = .ok (.iadd, 1) := by decide +kernel
theorem dL_law_569 : decode cL_law 569 = .ok (.iaload, 1) := by decide +kernel
theorem dL_law_570 : decode cL_law 570 = .ok (.invokevirtual 82, 3) := by decide +kernel
theorem dL_law_573 : decode cL_law 573 = .ok (.aload_n 2, 1) := by decide +kernel
theorem dL_law_574 : decode cL_law 574 = .ok (.aload_n 0, 1) := by decide +kernel
theorem dL_law_575 : decode cL_law 575 = .ok (.iload_n 3, 1) := by decide +kernel
theorem dL_law_576 : decode cL_law 576 = .ok (.iconst 1, 1) := by decide +kernel
theorem dL_law_577 : decode cL_law 577 = .ok (.iadd, 1) := by decide +kernel
theorem dL_law_578 : decode cL_law 578 = .ok (.iaload, 1) := by decide +kernel
theorem dL_law_579 : decode cL_law 579 = .ok (.invokevirtual 85, 3) := by decide +kernel
theorem dL_law_582 : decode cL_law 582 = .ok (.if_icmp .eq 444, 3) := by decide +kernel
theorem dL_law_585 : decode cL_law 585 = .ok (.iconst 0, 1) := by decide +kernel
theorem dL_law_586 : decode cL_law 586 = .ok (.ireturn, 1) := by decide +kernel
theorem dL_law_587 : decode cL_law 587 = .ok (.aload_n 1, 1) := by decide +kernel
theorem dL_law_588 : decode cL_law 588 = .ok (.aload_n 0, 1) := by decide +kernel
theorem dL_law_589 : decode cL_law 589 = .ok (.iload_n 3, 1) := by decide +kernel
theorem dL_law_590 : decode cL_law 590 = .ok (.iconst 1, 1) := by decide +kernel
theorem dL_law_591 : decode cL_law 591 = .ok (.iadd, 1) := by decide +kernel
theorem dL_law_592 : decode cL_law 592 = .ok (.iaload, 1) := by decide +kernel
theorem dL_law_593 : decode cL_law 593 = .ok (.aload_n 0, 1) := by decide +kernel
theorem dL_law_594 : decode cL_law 594 = .ok (.iload_n 3, 1) := by decide +kernel
theorem dL_law_595 : decode cL_law 595 = .ok (.iconst 2, 1) := by decide +kernel
theorem dL_law_596 : decode cL_law 596 = .ok (.iadd, 1) := by decide +kernel
theorem dL_law_597 : decode cL_law 597 = .ok (.iaload, 1) := by decide +kernel
theorem dL_law_598 : decode cL_law 598 = .ok (.i2l, 1) := by decide +kernel
theorem dL_law_599 : decode cL_law 599 = .ok (.bipush 32, 2) := by decide +kernel
theorem dL_law_601 : decode cL_law 601 = .ok (.lshl, 1) := by decide +kernel
theorem dL_law_602 : decode cL_law 602 = .ok (.aload_n 0, 1) := by decide +kernel
theorem dL_law_603 : decode cL_law 603 = .ok (.iload_n 3, 1) := by decide +kernel
theorem dL_law_604 : decode cL_law 604 = .ok (.iconst 3, 1) := by decide +kernel
theorem dL_law_605 : decode cL_law 605 = .ok (.iadd, 1) := by decide +kernel
theorem dL_law_606 : decode cL_law 606 = .ok (.iaload, 1) := by decide +kernel
theorem dL_law_607 : decode cL_law 607 = .ok (.i2l, 1) := by decide +kernel
theorem dL_law_608 : decode cL_law 608 = .ok (.ldc2_w 86, 3) := by decide +kernel
theorem dL_law_611 : decode cL_law 611 = .ok (.land, 1) := by decide +kernel
theorem dL_law_612 : decode cL_law 612 = .ok (.lor, 1) := by decide +kernel
theorem dL_law_613 : decode cL_law 613 = .ok (.invokevirtual 88, 3) := by decide +kernel
theorem dL_law_616 : decode cL_law 616 = .ok (.aload_n 2, 1) := by decide +kernel
theorem dL_law_617 : decode cL_law 617 = .ok (.aload_n 0, 1) := by decide +kernel
theorem dL_law_618 : decode cL_law 618 = .ok (.iload_n 3, 1) := by decide +kernel
theorem dL_law_619 : decode cL_law 619 = .ok (.iconst 1, 1) := by decide +kernel
theorem dL_law_620 : decode cL_law 620 = .ok (.iadd, 1) := by decide +kernel
theorem dL_law_621 : decode cL_law 621 = .ok (.iaload, 1) := by decide +kernel
theorem dL_law_622 : decode cL_law 622 = .ok (.aload_n 0, 1) := by decide +kernel
theorem dL_law_623 : decode cL_law 623 = .ok (.iload_n 3, 1) := by decide +kernel
theorem dL_law_624 : decode cL_law 624 = .ok (.iconst 2, 1) := by decide +kernel
theorem dL_law_625 : decode cL_law 625 = .ok (.iadd, 1) := by decide +kernel
theorem dL_law_626 : decode cL_law 626 = .ok (.iaload, 1) := by decide +kernel
theorem dL_law_627 : decode cL_law 627 = .ok (.i2l, 1) := by decide +kernel
theorem dL_law_628 : decode cL_law 628 = .ok (.bipush 32, 2) := by decide +kernel
theorem dL_law_630 : decode cL_law 630 = .ok (.lshl, 1) := by decide +kernel
theorem dL_law_631 : decode cL_law 631 = .ok (.aload_n 0, 1) := by decide +kernel
theorem dL_law_632 : decode cL_law 632 = .ok (.iload_n 3, 1) := by decide +kernel
theorem dL_law_633 : decode cL_law 633 = .ok (.iconst 3, 1) := by decide +kernel
theorem dL_law_634 : decode cL_law 634 = .ok (.iadd, 1) := by decide +kernel
theorem dL_law_635 : decode cL_law 635 = .ok (.iaload, 1) := by decide +kernel
theorem dL_law_636 : decode cL_law 636 = .ok (.i2l, 1) := by decide +kernel
theorem dL_law_637 : decode cL_law 637 = .ok (.ldc2_w 86, 3) := by decide +kernel
theorem dL_law_640 : decode cL_law 640 = .ok (.land, 1) := by decide +kernel
theorem dL_law_641 : decode cL_law 641 = .ok (.lor, 1) := by decide +kernel
theorem dL_law_642 : decode cL_law 642 = .ok (.invokevirtual 92, 3) := by decide +kernel
theorem dL_law_645 : decode cL_law 645 = .ok (.if_icmp .eq 381, 3) := by decide +kernel
theorem dL_law_648 : decode cL_law 648 = .ok (.iconst 0, 1) := by decide +kernel
theorem dL_law_649 : decode cL_law 649 = .ok (.ireturn, 1) := by decide +kernel
theorem dL_law_650 : decode cL_law 650 = .ok (.aload_n 1, 1) := by decide +kernel
theorem dL_law_651 : decode cL_law 651 = .ok (.aload_n 0, 1) := by decide +kernel
theorem dL_law_652 : decode cL_law 652 = .ok (.iload_n 3, 1) := by decide +kernel
theorem dL_law_653 : decode cL_law 653 = .ok (.iconst 1, 1) := by decide +kernel
theorem dL_law_654 : decode cL_law 654 = .ok (.iadd, 1) := by decide +kernel
theorem dL_law_655 : decode cL_law 655 = .ok (.iaload, 1) := by decide +kernel
theorem dL_law_656 : decode cL_law 656 = .ok (.aload_n 0, 1) := by decide +kernel
theorem dL_law_657 : decode cL_law 657 = .ok (.iload_n 3, 1) := by decide +kernel
theorem dL_law_658 : decode cL_law 658 = .ok (.iconst 2, 1) := by decide +kernel
theorem dL_law_659 : decode cL_law 659 = .ok (.iadd, 1) := by decide +kernel
theorem dL_law_660 : decode cL_law 660 = .ok (.iaload, 1) := by decide +kernel
theorem dL_law_661 : decode cL_law 661 = .ok (.aload_n 0, 1) := by decide +kernel
theorem dL_law_662 : decode cL_law 662 = .ok (.iload_n 3, 1) := by decide +kernel
theorem dL_law_663 : decode cL_law 663 = .ok (.iconst 3, 1) := by decide +kernel
theorem dL_law_664 : decode cL_law 664 = .ok (.iadd, 1) := by decide +kernel
theorem dL_law_665 : decode cL_law 665 = .ok (.iaload, 1) := by decide +kernel
theorem dL_law_666 : decode cL_law 666 = .ok (.invokevirtual 93, 3) := by decide +kernel
theorem dL_law_669 : decode cL_law 669 = .ok (.aload_n 2, 1) := by decide +kernel
theorem dL_law_670 : decode cL_law 670 = .ok (.aload_n 0, 1) := by decide +kernel
theorem dL_law_671 : decode cL_law 671 = .ok (.iload_n 3, 1) := by decide +kernel
theorem dL_law_672 : decode cL_law 672 = .ok (.iconst 1, 1) := by decide +kernel
theorem dL_law_673 : decode cL_law 673 = .ok (.iadd, 1) := by decide +kernel
theorem dL_law_674 : decode cL_law 674 = .ok (.iaload, 1) := by decide +kernel
theorem dL_law_675 : decode cL_law 675 = .ok (.aload_n 0, 1) := by decide +kernel
theorem dL_law_676 : decode cL_law 676 = .ok (.iload_n 3, 1) := by decide +kernel
theorem dL_law_677 : decode cL_law 677 = .ok (.iconst 2, 1) := by decide +kernel
theorem dL_law_678 : decode cL_law 678 = .ok (.iadd, 1) := by decide +kernel
theorem dL_law_679 : decode cL_law 679 = .ok (.iaload, 1) := by decide +kernel
theorem dL_law_680 : decode cL_law 680 = .ok (.aload_n 0, 1) := by decide +kernel
theorem dL_law_681 : decode cL_law 681 = .ok (.iload_n 3, 1) := by decide +kernel
theorem dL_law_682 : decode cL_law 682 = .ok (.iconst 3, 1) := by decide +kernel
theorem dL_law_683 : decode cL_law 683 = .ok (.iadd, 1) := by decide +kernel
theorem dL_law_684 : decode cL_law 684 = .ok (.iaload, 1) := by decide +kernel
theorem dL_law_685 : decode cL_law 685 = .ok (.invokevirtual 97, 3) := by decide +kernel
theorem dL_law_688 : decode cL_law 688 = .ok (.if_icmp .eq 338, 3) := by decide +kernel
theorem dL_law_691 : decode cL_law 691 = .ok (.iconst 0, 1) := by decide +kernel
theorem dL_law_692 : decode cL_law 692 = .ok (.ireturn, 1) := by decide +kernel
theorem dL_law_693 : decode cL_law 693 = .ok (.aload_n 1, 1) := by decide +kernel
theorem dL_law_694 : decode cL_law 694 = .ok (.invokevirtual 98, 3) := by decide +kernel
theorem dL_law_697 : decode cL_law 697 = .ok (.aload_n 2, 1) := by decide +kernel
theorem dL_law_698 : decode cL_law 698 = .ok (.invokevirtual 101, 3) := by decide +kernel
theorem dL_law_701 : decode cL_law 701 = .ok (.if_icmp .eq 325, 3) := by decide +kernel
theorem dL_law_704 : decode cL_law 704 = .ok (.iconst 0, 1) := by decide +kernel
theorem dL_law_705 : decode cL_law 705 = .ok (.ireturn, 1) := by decide +kernel
theorem dL_law_706 : decode cL_law 706 = .ok (.aload_n 1, 1) := by decide +kernel
theorem dL_law_707 : decode cL_law 707 = .ok (.aload_n 0, 1) := by decide +kernel
theorem dL_law_708 : decode cL_law 708 = .ok (.iload_n 3, 1) := by decide +kernel
theorem dL_law_709 : decode cL_law 709 = .ok (.iconst 1, 1) := by decide +kernel
theorem dL_law_710 : decode cL_law 710 = .ok (.iadd, 1) := by decide +kernel
theorem dL_law_711 : decode cL_law 711 = .ok (.iaload, 1) := by decide +kernel
theorem dL_law_712 : decode cL_law 712 = .ok (.invokevirtual 102, 3) := by decide +kernel
theorem dL_law_715 : decode cL_law 715 = .ok (.aload_n 2, 1) := by decide +kernel
theorem dL_law_716 : decode cL_law 716 = .ok (.aload_n 0, 1) := by decide +kernel
theorem dL_law_717 : decode cL_law 717 = .ok (.iload_n 3, 1) := by decide +kernel
theorem dL_law_718 : decode cL_law 718 = .ok (.iconst 1, 1) := by decide +kernel
theorem dL_law_719 : decode cL_law 719 = .ok (.iadd, 1) := by decide +kernel
theorem dL_law_720 : decode cL_law 720 = .ok (.iaload, 1) := by decide +kernel
theorem dL_law_721 : decode cL_law 721 = .ok (.invokevirtual 105, 3) := by decide +kernel
theorem dL_law_724 : decode cL_law 724 = .ok (.if_icmp .eq 302, 3) := by decide +kernel
theorem dL_law_727 : decode cL_law 727 = .ok (.iconst 0, 1) := by decide +kernel
theorem dL_law_728 : decode cL_law 728 = .ok (.ireturn, 1) := by decide +kernel
theorem dL_law_729 : decode cL_law 729 = .ok (.aload_n 1, 1) := by decide +kernel
theorem dL_law_730 : decode cL_law 730 = .ok (.aload_n 0, 1) := by decide +kernel
theorem dL_law_731 : decode cL_law 731 = .ok (.iload_n 3, 1) := by decide +kernel
theorem dL_law_732 : decode cL_law 732 = .ok (.iconst 1, 1) := by decide +kernel
theorem dL_law_733 : decode cL_law 733 = .ok (.iadd, 1) := by decide +kernel
theorem dL_law_734 : decode cL_law 734 = .ok (.iaload, 1) := by decide +kernel
theorem dL_law_735 : decode cL_law 735 = .ok (.aload_n 0, 1) := by decide +kernel
theorem dL_law_736 : decode cL_law 736 = .ok (.iload_n 3, 1) := by decide +kernel
theorem dL_law_737 : decode cL_law 737 = .ok (.iconst 2, 1) := by decide +kernel
theorem dL_law_738 : decode cL_law 738 = .ok (.iadd, 1) := by decide +kernel
theorem dL_law_739 : decode cL_law 739 = .ok (.iaload, 1) := by decide +kernel
theorem dL_law_740 : decode cL_law 740 = .ok (.ifCond .eq 7, 3) := by decide +kernel
theorem dL_law_743 : decode cL_law 743 = .ok (.iconst 1, 1) := by decide +kernel
theorem dL_law_744 : decode cL_law 744 = .ok (.goto 4, 3) := by decide +kernel
theorem dL_law_747 : decode cL_law 747 = .ok (.iconst 0, 1) := by decide +kernel
theorem dL_law_748 : decode cL_law 748 = .ok (.invokevirtual 106, 3) := by decide +kernel
theorem dL_law_751 : decode cL_law 751 = .ok (.aload_n 2, 1) := by decide +kernel
theorem dL_law_752 : decode cL_law 752 = .ok (.aload_n 0, 1) := by decide +kernel
theorem dL_law_753 : decode cL_law 753 = .ok (.iload_n 3, 1) := by decide +kernel
theorem dL_law_754 : decode cL_law 754 = .ok (.iconst 1, 1) := by decide +kernel
theorem dL_law_755 : decode cL_law 755 = .ok (.iadd, 1) := by decide +kernel
theorem dL_law_756 : decode cL_law 756 = .ok (.iaload, 1) := by decide +kernel
theorem dL_law_757 : decode cL_law 757 = .ok (.aload_n 0, 1) := by decide +kernel
theorem dL_law_758 : decode cL_law 758 = .ok (.iload_n 3, 1) := by decide +kernel
theorem dL_law_759 : decode cL_law 759 = .ok (.iconst 2, 1) := by decide +kernel
theorem dL_law_760 : decode cL_law 760 = .ok (.iadd, 1) := by decide +kernel
theorem dL_law_761 : decode cL_law 761 = .ok (.iaload, 1) := by decide +kernel
theorem dL_law_762 : decode cL_law 762 = .ok (.ifCond .eq 7, 3) := by decide +kernel
theorem dL_law_765 : decode cL_law 765 = .ok (.iconst 1, 1) := by decide +kernel
theorem dL_law_766 : decode cL_law 766 = .ok (.goto 4, 3) := by decide +kernel
theorem dL_law_769 : decode cL_law 769 = .ok (.iconst 0, 1) := by decide +kernel
theorem dL_law_770 : decode cL_law 770 = .ok (.invokevirtual 109, 3) := by decide +kernel
theorem dL_law_773 : decode cL_law 773 = .ok (.if_icmp .eq 253, 3) := by decide +kernel
theorem dL_law_776 : decode cL_law 776 = .ok (.iconst 0, 1) := by decide +kernel
theorem dL_law_777 : decode cL_law 777 = .ok (.ireturn, 1) := by decide +kernel
theorem dL_law_778 : decode cL_law 778 = .ok (.aload_n 1, 1) := by decide +kernel
theorem dL_law_779 : decode cL_law 779 = .ok (.aload_n 0, 1) := by decide +kernel
theorem dL_law_780 : decode cL_law 780 = .ok (.iload_n 3, 1) := by decide +kernel
theorem dL_law_781 : decode cL_law 781 = .ok (.iconst 1, 1) := by decide +kernel
theorem dL_law_782 : decode cL_law 782 = .ok (.iadd, 1) := by decide +kernel
theorem dL_law_783 : decode cL_law 783 = .ok (.iaload, 1) := by decide +kernel
theorem dL_law_784 : decode cL_law 784 = .ok (.aload_n 0, 1) := by decide +kernel
theorem dL_law_785 : decode cL_law 785 = .ok (.iload_n 3, 1) := by decide +kernel
theorem dL_law_786 : decode cL_law 786 = .ok (.iconst 2, 1) := by decide +kernel
theorem dL_law_787 : decode cL_law 787 = .ok (.iadd, 1) := by decide +kernel
theorem dL_law_788 : decode cL_law 788 = .ok (.iaload, 1) := by decide +kernel
theorem dL_law_789 : decode cL_law 789 = .ok (.aload_n 0, 1) := by decide +kernel
theorem dL_law_790 : decode cL_law 790 = .ok (.iload_n 3, 1) := by decide +kernel
theorem dL_law_791 : decode cL_law 791 = .ok (.iconst 3, 1) := by decide +kernel
theorem dL_law_792 : decode cL_law 792 = .ok (.iadd, 1) := by decide +kernel
theorem dL_law_793 : decode cL_law 793 = .ok (.iaload, 1) := by decide +kernel
theorem dL_law_794 : decode cL_law 794 = .ok (.invokevirtual 110, 3) := by decide +kernel
theorem dL_law_797 : decode cL_law 797 = .ok (.aload_n 2, 1) := by decide +kernel
theorem dL_law_798 : decode cL_law 798 = .ok (.aload_n 0, 1) := by decide +kernel
theorem dL_law_799 : decode cL_law 799 = .ok (.iload_n 3, 1) := by decide +kernel
theorem dL_law_800 : decode cL_law 800 = .ok (.iconst 1, 1) := by decide +kernel
theorem dL_law_801 : decode cL_law 801 = .ok (.iadd, 1) := by decide +kernel
theorem dL_law_802 : decode cL_law 802 = .ok (.iaload, 1) := by decide +kernel
theorem dL_law_803 : decode cL_law 803 = .ok (.aload_n 0, 1) := by decide +kernel
theorem dL_law_804 : decode cL_law 804 = .ok (.iload_n 3, 1) := by decide +kernel
theorem dL_law_805 : decode cL_law 805 = .ok (.iconst 2, 1) := by decide +kernel
theorem dL_law_806 : decode cL_law 806 = .ok (.iadd, 1) := by decide +kernel
theorem dL_law_807 : decode cL_law 807 = .ok (.iaload, 1) := by decide +kernel
theorem dL_law_808 : decode cL_law 808 = .ok (.aload_n 0, 1) := by decide +kernel
theorem dL_law_809 : decode cL_law 809 = .ok (.iload_n 3, 1) := by decide +kernel
theorem dL_law_810 : decode cL_law 810 = .ok (.iconst 3, 1) := by decide +kernel
theorem dL_law_811 : decode cL_law 811 = .ok (.iadd, 1) := by decide +kernel
theorem dL_law_812 : decode cL_law 812 = .ok (.iaload, 1) := by decide +kernel
theorem dL_law_813 : decode cL_law 813 = .ok (.invokevirtual 113, 3) := by decide +kernel
theorem dL_law_816 : decode cL_law 816 = .ok (.if_icmp .eq 210, 3) := by decide +kernel
theorem dL_law_819 : decode cL_law 819 = .ok (.iconst 0, 1) := by decide +kernel
theorem dL_law_820 : decode cL_law 820 = .ok (.ireturn, 1) := by decide +kernel
theorem dL_law_821 : decode cL_law 821 = .ok (.aload_n 1, 1) := by decide +kernel
theorem dL_law_822 : decode cL_law 822 = .ok (.aload_n 0, 1) := by decide +kernel
theorem dL_law_823 : decode cL_law 823 = .ok (.iload_n 3, 1) := by decide +kernel
theorem dL_law_824 : decode cL_law 824 = .ok (.iconst 1, 1) := by decide +kernel
theorem dL_law_825 : decode cL_law 825 = .ok (.iadd, 1) := by decide +kernel
theorem dL_law_826 : decode cL_law 826 = .ok (.iaload, 1) := by decide +kernel
theorem dL_law_827 : decode cL_law 827 = .ok (.aload_n 0, 1) := by decide +kernel
theorem dL_law_828 : decode cL_law 828 = .ok (.iload_n 3, 1) := by decide +kernel
theorem dL_law_829 : decode cL_law 829 = .ok (.iconst 2, 1) := by decide +kernel
theorem dL_law_830 : decode cL_law 830 = .ok (.iadd, 1) := by decide +kernel
theorem dL_law_831 : decode cL_law 831 = .ok (.iaload, 1) := by decide +kernel
theorem dL_law_832 : decode cL_law 832 = .ok (.aload_n 0, 1) := by decide +kernel
theorem dL_law_833 : decode cL_law 833 = .ok (.iload_n 3, 1) := by decide +kernel
theorem dL_law_834 : decode cL_law 834 = .ok (.iconst 3, 1) := by decide +kernel
theorem dL_law_835 : decode cL_law 835 = .ok (.iadd, 1) := by decide +kernel
theorem dL_law_836 : decode cL_law 836 = .ok (.iaload, 1) := by decide +kernel
theorem dL_law_837 : decode cL_law 837 = .ok (.ifCond .eq 7, 3) := by decide +kernel
theorem dL_law_840 : decode cL_law 840 = .ok (.iconst 1, 1) := by decide +kernel
theorem dL_law_841 : decode cL_law 841 = .ok (.goto 4, 3) := by decide +kernel
theorem dL_law_844 : decode cL_law 844 = .ok (.iconst 0, 1) := by decide +kernel
theorem dL_law_845 : decode cL_law 845 = .ok (.invokevirtual 114, 3) := by decide +kernel
theorem dL_law_848 : decode cL_law 848 = .ok (.aload_n 2, 1) := by decide +kernel
theorem dL_law_849 : decode cL_law 849 = .ok (.aload_n 0, 1) := by decide +kernel
theorem dL_law_850 : decode cL_law 850 = .ok (.iload_n 3, 1) := by decide +kernel
theorem dL_law_851 : decode cL_law 851 = .ok (.iconst 1, 1) := by decide +kernel
theorem dL_law_852 : decode cL_law 852 = .ok (.iadd, 1) := by decide +kernel
theorem dL_law_853 : decode cL_law 853 = .ok (.iaload, 1) := by decide +kernel
theorem dL_law_854 : decode cL_law 854 = .ok (.aload_n 0, 1) := by decide +kernel
theorem dL_law_855 : decode cL_law 855 = .ok (.iload_n 3, 1) := by decide +kernel
theorem dL_law_856 : decode cL_law 856 = .ok (.iconst 2, 1) := by decide +kernel
theorem dL_law_857 : decode cL_law 857 = .ok (.iadd, 1) := by decide +kernel
theorem dL_law_858 : decode cL_law 858 = .ok (.iaload, 1) := by decide +kernel
theorem dL_law_859 : decode cL_law 859 = .ok (.aload_n 0, 1) := by decide +kernel
theorem dL_law_860 : decode cL_law 860 = .ok (.iload_n 3, 1) := by decide +kernel
theorem dL_law_861 : decode cL_law 861 = .ok (.iconst 3, 1) := by decide +kernel
theorem dL_law_862 : decode cL_law 862 = .ok (.iadd, 1) := by decide +kernel
theorem dL_law_863 : decode cL_law 863 = .ok (.iaload, 1) := by decide +kernel
theorem dL_law_864 : decode cL_law 864 = .ok (.ifCond .eq 7, 3) := by decide +kernel
theorem dL_law_867 : decode cL_law 867 = .ok (.iconst 1, 1) := by decide +kernel
theorem dL_law_868 : decode cL_law 868 = .ok (.goto 4, 3) := by decide +kernel
theorem dL_law_871 : decode cL_law 871 = .ok (.iconst 0, 1) := by decide +kernel
theorem dL_law_872 : decode cL_law 872 = .ok (.invokevirtual 118, 3) := by decide +kernel
theorem dL_law_875 : decode cL_law 875 = .ok (.if_icmp .eq 151, 3) := by decide +kernel
theorem dL_law_878 : decode cL_law 878 = .ok (.iconst 0, 1) := by decide +kernel
theorem dL_law_879 : decode cL_law 879 = .ok (.ireturn, 1) := by decide +kernel
theorem dL_law_880 : decode cL_law 880 = .ok (.aload_n 1, 1) := by decide +kernel
theorem dL_law_881 : decode cL_law 881 = .ok (.aload_n 0, 1) := by decide +kernel
theorem dL_law_882 : decode cL_law 882 = .ok (.iload_n 3, 1) := by decide +kernel
theorem dL_law_883 : decode cL_law 883 = .ok (.iconst 1, 1) := by decide +kernel
theorem dL_law_884 : decode cL_law 884 = .ok (.iadd, 1) := by decide +kernel
theorem dL_law_885 : decode cL_law 885 = .ok (.iaload, 1) := by decide +kernel
theorem dL_law_886 : decode cL_law 886 = .ok (.i2l, 1) := by decide +kernel
theorem dL_law_887 : decode cL_law 887 = .ok (.bipush 32, 2) := by decide +kernel
theorem dL_law_889 : decode cL_law 889 = .ok (.lshl, 1) := by decide +kernel
theorem dL_law_890 : decode cL_law 890 = .ok (.aload_n 0, 1) := by decide +kernel
theorem dL_law_891 : decode cL_law 891 = .ok (.iload_n 3, 1) := by decide +kernel
theorem dL_law_892 : decode cL_law 892 = .ok (.iconst 2, 1) := by decide +kernel
theorem dL_law_893 : decode cL_law 893 = .ok (.iadd, 1) := by decide +kernel
theorem dL_law_894 : decode cL_law 894 = .ok (.iaload, 1) := by decide +kernel
theorem dL_law_895 : decode cL_law 895 = .ok (.i2l, 1) := by decide +kernel
theorem dL_law_896 : decode cL_law 896 = .ok (.ldc2_w 86, 3) := by decide +kernel
theorem dL_law_899 : decode cL_law 899 = .ok (.land, 1) := by decide +kernel
theorem dL_law_900 : decode cL_law 900 = .ok (.lor, 1) := by decide +kernel
theorem dL_law_901 : decode cL_law 901 = .ok (.invokevirtual 119, 3) := by decide +kernel
theorem dL_law_904 : decode cL_law 904 = .ok (.aload_n 2, 1) := by decide +kernel
theorem dL_law_905 : decode cL_law 905 = .ok (.aload_n 0, 1) := by decide +kernel
theorem dL_law_906 : decode cL_law 906 = .ok (.iload_n 3, 1) := by decide +kernel
theorem dL_law_907 : decode cL_law 907 = .ok (.iconst 1, 1) := by decide +kernel
theorem dL_law_908 : decode cL_law 908 = .ok (.iadd, 1) := by decide +kernel
theorem dL_law_909 : decode cL_law 909 = .ok (.iaload, 1) := by decide +kernel
theorem dL_law_910 : decode cL_law 910 = .ok (.i2l, 1) := by decide +kernel
theorem dL_law_911 : decode cL_law 911 = .ok (.bipush 32, 2) := by decide +kernel
theorem dL_law_913 : decode cL_law 913 = .ok (.lshl, 1) := by decide +kernel
theorem dL_law_914 : decode cL_law 914 = .ok (.aload_n 0, 1) := by decide +kernel
theorem dL_law_915 : decode cL_law 915 = .ok (.iload_n 3, 1) := by decide +kernel
theorem dL_law_916 : decode cL_law 916 = .ok (.iconst 2, 1) := by decide +kernel
theorem dL_law_917 : decode cL_law 917 = .ok (.iadd, 1) := by decide +kernel
theorem dL_law_918 : decode cL_law 918 = .ok (.iaload, 1) := by decide +kernel
theorem dL_law_919 : decode cL_law 919 = .ok (.i2l, 1) := by decide +kernel
theorem dL_law_920 : decode cL_law 920 = .ok (.ldc2_w 86, 3) := by decide +kernel
theorem dL_law_923 : decode cL_law 923 = .ok (.land, 1) := by decide +kernel
theorem dL_law_924 : decode cL_law 924 = .ok (.lor, 1) := by decide +kernel
theorem dL_law_925 : decode cL_law 925 = .ok (.invokevirtual 123, 3) := by decide +kernel
theorem dL_law_928 : decode cL_law 928 = .ok (.lcmp, 1) := by decide +kernel
theorem dL_law_929 : decode cL_law 929 = .ok (.ifCond .eq 97, 3) := by decide +kernel
theorem dL_law_932 : decode cL_law 932 = .ok (.iconst 0, 1) := by decide +kernel
theorem dL_law_933 : decode cL_law 933 = .ok (.ireturn, 1) := by decide +kernel
theorem dL_law_934 : decode cL_law 934 = .ok (.aload_n 1, 1) := by decide +kernel
theorem dL_law_935 : decode cL_law 935 = .ok (.aload_n 0, 1) := by decide +kernel
theorem dL_law_936 : decode cL_law 936 = .ok (.iload_n 3, 1) := by decide +kernel
theorem dL_law_937 : decode cL_law 937 = .ok (.iconst 1, 1) := by decide +kernel
theorem dL_law_938 : decode cL_law 938 = .ok (.iadd, 1) := by decide +kernel
theorem dL_law_939 : decode cL_law 939 = .ok (.iaload, 1) := by decide +kernel
theorem dL_law_940 : decode cL_law 940 = .ok (.invokevirtual 124, 3) := by decide +kernel
theorem dL_law_943 : decode cL_law 943 = .ok (.aload_n 2, 1) := by decide +kernel
theorem dL_law_944 : decode cL_law 944 = .ok (.aload_n 0, 1) := by decide +kernel
theorem dL_law_945 : decode cL_law 945 = .ok (.iload_n 3, 1) := by decide +kernel
theorem dL_law_946 : decode cL_law 946 = .ok (.iconst 1, 1) := by decide +kernel
theorem dL_law_947 : decode cL_law 947 = .ok (.iadd, 1) := by decide +kernel
theorem dL_law_948 : decode cL_law 948 = .ok (.iaload, 1) := by decide +kernel
theorem dL_law_949 : decode cL_law 949 = .ok (.invokevirtual 127, 3) := by decide +kernel
theorem dL_law_952 : decode cL_law 952 = .ok (.if_icmp .eq 74, 3) := by decide +kernel
theorem dL_law_955 : decode cL_law 955 = .ok (.iconst 0, 1) := by decide +kernel
theorem dL_law_956 : decode cL_law 956 = .ok (.ireturn, 1) := by decide +kernel
theorem dL_law_957 : decode cL_law 957 = .ok (.aload_n 1, 1) := by decide +kernel
theorem dL_law_958 : decode cL_law 958 = .ok (.aload_n 0, 1) := by decide +kernel
theorem dL_law_959 : decode cL_law 959 = .ok (.iload_n 3, 1) := by decide +kernel
theorem dL_law_960 : decode cL_law 960 = .ok (.iconst 1, 1) := by decide +kernel
theorem dL_law_961 : decode cL_law 961 = .ok (.iadd, 1) := by decide +kernel
theorem dL_law_962 : decode cL_law 962 = .ok (.iaload, 1) := by decide +kernel
theorem dL_law_963 : decode cL_law 963 = .ok (.invokevirtual 128, 3) := by decide +kernel
theorem dL_law_966 : decode cL_law 966 = .ok (.aload_n 2, 1) := by decide +kernel
theorem dL_law_967 : decode cL_law 967 = .ok (.aload_n 0, 1) := by decide +kernel
theorem dL_law_968 : decode cL_law 968 = .ok (.iload_n 3, 1) := by decide +kernel
theorem dL_law_969 : decode cL_law 969 = .ok (.iconst 1, 1) := by decide +kernel
theorem dL_law_970 : decode cL_law 970 = .ok (.iadd, 1) := by decide +kernel
theorem dL_law_971 : decode cL_law 971 = .ok (.iaload, 1) := by decide +kernel
theorem dL_law_972 : decode cL_law 972 = .ok (.invokevirtual 131, 3) := by decide +kernel
theorem dL_law_975 : decode cL_law 975 = .ok (.if_icmp .eq 51, 3) := by decide +kernel
theorem dL_law_978 : decode cL_law 978 = .ok (.iconst 0, 1) := by decide +kernel
theorem dL_law_979 : decode cL_law 979 = .ok (.ireturn, 1) := by decide +kernel
theorem dL_law_980 : decode cL_law 980 = .ok (.aload_n 1, 1) := by decide +kernel
theorem dL_law_981 : decode cL_law 981 = .ok (.aload_n 0, 1) := by decide +kernel
theorem dL_law_982 : decode cL_law 982 = .ok (.iload_n 3, 1) := by decide +kernel
theorem dL_law_983 : decode cL_law 983 = .ok (.iconst 1, 1) := by decide +kernel
theorem dL_law_984 : decode cL_law 984 = .ok (.iadd, 1) := by decide +kernel
theorem dL_law_985 : decode cL_law 985 = .ok (.iaload, 1) := by decide +kernel
theorem dL_law_986 : decode cL_law 986 = .ok (.invokevirtual 132, 3) := by decide +kernel
theorem dL_law_989 : decode cL_law 989 = .ok (.aload_n 2, 1) := by decide +kernel
theorem dL_law_990 : decode cL_law 990 = .ok (.aload_n 0, 1) := by decide +kernel
theorem dL_law_991 : decode cL_law 991 = .ok (.iload_n 3, 1) := by decide +kernel
theorem dL_law_992 : decode cL_law 992 = .ok (.iconst 1, 1) := by decide +kernel
theorem dL_law_993 : decode cL_law 993 = .ok (.iadd, 1) := by decide +kernel
theorem dL_law_994 : decode cL_law 994 = .ok (.iaload, 1) := by decide +kernel
theorem dL_law_995 : decode cL_law 995 = .ok (.invokevirtual 135, 3) := by decide +kernel
theorem dL_law_998 : decode cL_law 998 = .ok (.if_icmp .eq 28, 3) := by decide +kernel
theorem dL_law_1001 : decode cL_law 1001 = .ok (.iconst 0, 1) := by decide +kernel
theorem dL_law_1002 : decode cL_law 1002 = .ok (.ireturn, 1) := by decide +kernel
theorem dL_law_1003 : decode cL_law 1003 = .ok (.aload_n 1, 1) := by decide +kernel
theorem dL_law_1004 : decode cL_law 1004 = .ok (.aload_n 0, 1) := by decide +kernel
theorem dL_law_1005 : decode cL_law 1005 = .ok (.iload_n 3, 1) := by decide +kernel
theorem dL_law_1006 : decode cL_law 1006 = .ok (.iconst 1, 1) := by decide +kernel
theorem dL_law_1007 : decode cL_law 1007 = .ok (.iadd, 1) := by decide +kernel
theorem dL_law_1008 : decode cL_law 1008 = .ok (.iaload, 1) := by decide +kernel
theorem dL_law_1009 : decode cL_law 1009 = .ok (.invokevirtual 136, 3) := by decide +kernel
theorem dL_law_1012 : decode cL_law 1012 = .ok (.aload_n 2, 1) := by decide +kernel
theorem dL_law_1013 : decode cL_law 1013 = .ok (.aload_n 0, 1) := by decide +kernel
theorem dL_law_1014 : decode cL_law 1014 = .ok (.iload_n 3, 1) := by decide +kernel
theorem dL_law_1015 : decode cL_law 1015 = .ok (.iconst 1, 1) := by decide +kernel
theorem dL_law_1016 : decode cL_law 1016 = .ok (.iadd, 1) := by decide +kernel
theorem dL_law_1017 : decode cL_law 1017 = .ok (.iaload, 1) := by decide +kernel
theorem dL_law_1018 : decode cL_law 1018 = .ok (.invokevirtual 139, 3) := by decide +kernel
theorem dL_law_1021 : decode cL_law 1021 = .ok (.if_icmp .eq 5, 3) := by decide +kernel
theorem dL_law_1024 : decode cL_law 1024 = .ok (.iconst 0, 1) := by decide +kernel
theorem dL_law_1025 : decode cL_law 1025 = .ok (.ireturn, 1) := by decide +kernel
theorem dL_law_1026 : decode cL_law 1026 = .ok (.iinc 3 4, 3) := by decide +kernel
theorem dL_law_1029 : decode cL_law 1029 = .ok (.goto (-1011), 3) := by decide +kernel
theorem dL_law_1032 : decode cL_law 1032 = .ok (.iconst 1, 1) := by decide +kernel
theorem dL_law_1033 : decode cL_law 1033 = .ok (.ireturn, 1) := by decide +kernel
end
section
/-! THE WORLD AS A MEMORY: cells are numbered; an int cell or int field is 'S cell place', a long field 'L cell'; references are numbers of cells. Ev: a walk from a place of a method; Ct: a method's contract. -/
def gw_tbl : List Cond := lw_tbl.filter goodWord
theorem gx_good : gw_tbl.all goodWord = true := List.all_eq_true.mpr (fun w h => (List.mem_filter.mp h).2)
theorem gw_in {w : Cond} (i : Nat) (h : lw_tbl[i]? = some w) (hg : goodWord w = true) : w ∈ gw_tbl := List.mem_filter.mpr ⟨List.mem_of_getElem? h, hg⟩
def gx_isN (w : Cond) : Bool := match w with
  | .fieldLinkNest _ _ _ _ _ _ => true
  | .methodLinkNest _ _ _ _ => true
  | _ => false
def gn_tbl : List Cond := lw_tbl.filter gx_isN
theorem gn_in {w : Cond} (i : Nat) (h : lw_tbl[i]? = some w) (hg : gx_isN w = true) : w ∈ gn_tbl := List.mem_filter.mpr ⟨List.mem_of_getElem? h, hg⟩
/-- the links to private members of nest mates -/
def gx_N (U : State) : Prop := ∀ w ∈ gn_tbl, va_Nw w U
theorem gx_N.warm {s U : State} (hW : s.WarmedH U.vm) (h : gx_N s) : gx_N U := by
  intro w hw
  have h1 := h w hw
  have h2 := (List.mem_filter.mp hw).2
  cases w <;> first | exact va_Nw.warmF hW h1 | exact va_Nw.warmM hW h1 | cases h2
theorem gx_N.same {s U : State} (hv : s.vm = U.vm) (h : gx_N s) : gx_N U := by
  intro w hw
  have h1 := h w hw
  have h2 := (List.mem_filter.mp hw).2
  refine va_Nw.same ?_ hv h1
  cases w <;> first | rfl | cases h2
theorem gx_N.use {s : State} {args : Array Value} (h : gx_N s) {w : Cond} (hw : w ∈ gn_tbl) : w.before args s = true := by
  have h1 := h w hw
  have h2 := (List.mem_filter.mp hw).2
  refine va_Nw.use ?_ h1
  cases w <;> first | rfl | cases h2
abbrev gx_S : Type := Nat → Nat → Int32
abbrev gx_L : Type := Nat → Int64
abbrev gx_M : Type := MethodName × ByteArray × Nat × Option FieldType
abbrev gx_Sh : Type := (Nat × Nat) ⊕ (Nat × List Nat)
def sh_all : List gx_Sh := [
  .inr (10, [3, 5, 6, 13, 20, 24, 28, 32, 35, 0, 37, 41, 44, 45, 1]),
  .inr (3, [4, 0]), .inl (0, 60),
  .inr (5, [0, 0, 0]),
  .inr (2, [0, 0, 7, 8, 9, 10, 11, 12]), .inl (0, 5), .inl (0, 5), .inl (0, 5), .inl (0, 4), .inl (0, 4), .inl (0, 4),
  .inr (2, [0, 0, 14, 15, 16, 17, 18, 19]), .inl (0, 5), .inl (0, 5), .inl (0, 5), .inl (0, 4), .inl (0, 4), .inl (0, 4),
  .inr (9, [13, 21, 22, 23, 0]), .inl (0, 5), .inl (0, 5), .inl (0, 4),
  .inr (9, [13, 25, 26, 27, 0]), .inl (0, 5), .inl (0, 5), .inl (0, 4),
  .inr (9, [13, 29, 30, 31, 0]), .inl (0, 5), .inl (0, 5), .inl (0, 4),
  .inr (0, [33, 0, 0]), .inr (8, [0, 34]), .inl (0, 210),
  .inr (8, [0, 36]), .inl (0, 30),
  .inr (7, [38, 39, 40, 0]), .inl (0, 6), .inl (0, 6), .inl (0, 6),
  .inr (6, [13, 20, 28, 42, 43, 0, 0]), .inl (0, 5), .inl (0, 4),
  .inr (1, [13, 20, 28]),
  .inr (4, [13, 20, 0, 0, 0, 0]),
  .inr (11, [0, 0, 47, 48, 49, 50, 51, 52, 53, 54, 0, 0, 55, 0, 0, 0, 0, 0, 56, 0, 57, 58, 59, 1, 60, 61]),
  .inl (0, 5), .inl (0, 5), .inl (0, 4), .inl (0, 4), .inl (0, 30), .inl (0, 15), .inl (0, 8), .inl (0, 4), .inl (0, 60), .inl (0, 210), .inl (0, 6), .inl (0, 6), .inl (0, 6), .inl (1, 2), .inl (0, 30)]
def gx_v (ad : Nat → Nat) (v : Value) : Value := match v with
  | .ref k => .ref (ad k)
  | w => w
def gx_fv (ad : Nat → Nat) (f : Nat → Int32) (lg : Int64) (j t : Nat) : Value := match t with
  | 0 => .int (f j)
  | 1 => .long lg
  | r + 2 => .ref (ad r)
def gx_ce (ad : Nat → Nat) (cT : Nat → ClassId) (sh : gx_Sh) (f : Nat → Int32) (lg : Int64) : va_E := match sh with
  | .inl q => .inl (cT q.1, q.2, .inl f)
  | .inr q => .inr (q.1, q.2.mapIdx (fun j t => gx_fv ad f lg j t))
def gx_w (ad : Nat → Nat) (cT : Nat → ClassId) (S : gx_S) (L : gx_L) : va_W := sh_all.mapIdx (fun k sh => (ad k, gx_ce ad cT sh (S k) (L k)))
abbrev gx_T (cT : Nat → ClassId) : List (ClassId × FieldType) := [(cT 0, .int), (cT 1, .boolean)]
def gx_ord (j : Nat) : Int32 := match j with
  | 0 => 1
  | 1 => 1
  | 2 => 2
  | 3 => 6
  | _ => 24
def gx_Z (A : Nat → Prop) (U : State) (H : Heap) : Prop := ∃ t : Nat, va_Z "GlassTax$Chances" "ORDERS_OF" "[I" (.ref t) A U H ∧ va_T .int t 5 (fun j => .int (gx_ord j)) A U H
def gx_lr (ad : Nat → Nat) (ls : Array Slot) (nL : Nat) (loc : List (Option Value)) : Prop := ls.size = nL ∧ lv_wf ls ∧ loc.length ≤ nL ∧ ∀ (i : Nat) (v : Value), loc[i]? = some (some v) → ls[i]? = some (.val (gx_v ad v))
def gx_Cx (M : gx_M) (d : Nat) (p : Program) (R : Room) (s : State) (m : MethodId) (args : Array Value) (meth : Method) (c : Code) (cT : Nat → ClassId) (D : va_G) (A : Nat → Prop) : Prop :=
  p.tables.exec = Jvm.exec ∧ c.code = M.2.1 ∧ c.maxLocals = M.2.2.1 ∧ meth.sig.returnType = M.2.2.2 ∧ s.vm.findClass M.1.cls = some m.cls ∧ (∀ w ∈ gw_tbl, w.before args s = true) ∧ meth.locks = false ∧ va_K D vwCl (gx_T cT) s ∧ gx_Z A s s.heap ∧ d ≤ R.frames ∧ 64 * d ≤ R.locals ∧ (∀ q, s.heap.size ≤ q → A q) ∧ gx_N s
def gx_Qc (ad : Nat → Nat) (cT : Nat → ClassId) (D : va_G) (A : Nat → Prop) (Q : Option Value → gx_S → gx_L → Prop) : Array Value → State → Outcome → State → Prop := fun _ st oc t =>
  (∃ (v : Option Value) (S' : gx_S) (L' : gx_L), oc = .returned (v.map (gx_v ad)) ∧ Q v S' L' ∧ va_P D vwCl (gx_w ad cT S' L') t.heap ∧ va_K D vwCl (gx_T cT) t ∧ va_D A (gx_w ad cT S' L')) ∧ va_F A st t
/-- a walk of method M (of d frames at most), from the place pc, with locals loc, operands st, in the memory S, L: it ends with Q -/
def Ev (M : gx_M) (d pc : Nat) (loc : List (Option Value)) (st : List Value) (S : gx_S) (L : gx_L) (Q : Option Value → gx_S → gx_L → Prop) : Prop :=
  ∀ (p : Program) (l : Launch) (e : Env) (R : Room) (s : State) (m : MethodId) (args : Array Value) (below : List Frame) (meth : Method) (c : Code) (ad : Nat → Nat) (cT : Nat → ClassId) (D : va_G) (A : Nat → Prop), gx_Cx M d p R s m args meth c cT D A →
    ∀ (H : Heap) (locs : List Loc) (ls : Array Slot), va_P D vwCl (gx_w ad cT S L) H → va_D A (gx_w ad cT S L) → va_S A s.heap H locs → gx_lr ad ls M.2.2.1 loc →
      W p l e R s m args below meth c H locs 0 0 (MQ below (gx_Qc ad cT D A Q) args s 0 0 A) (F0 m pc ls (st.map (gx_v ad)))
def gx_rm (d : Nat) : Room := { frames := d, cells := 0, slots := 0, locals := 64 * d }
/-- the contract of method M (of d frames at most): called with av in the memory S, L it ends with Q -/
def Ct (d : Nat) (M : gx_M) (av : List Value) (S : gx_S) (L : gx_L) (Q : Option Value → gx_S → gx_L → Prop) : Prop :=
  ∀ (l : Launch) (ad : Nat → Nat) (cT : Nat → ClassId) (D : va_G) (sz : Nat), Met l M.1 (.code M.1 M.2.1 M.2.2.1 M.2.2.2 :: gw_tbl) (gx_rm d)
    (va_Pc (av.map (gx_v ad)) (fun U => U.heap.size = sz ∧ va_P D vwCl (gx_w ad cT S L) U.heap ∧ va_K D vwCl (gx_T cT) U ∧ va_D (fun _ => True) (gx_w ad cT S L) ∧ gx_Z (va_A (gx_w ad cT S L) sz) U U.heap ∧ gx_N U))
    (gx_Qc ad cT D (va_A (gx_w ad cT S L) sz) Q) 0 0 (va_A (gx_w ad cT S L) sz)
/-! ===== the world's cells ===== -/
theorem gx_w_get {ad : Nat → Nat} {cT : Nat → ClassId} {S : gx_S} {L : gx_L} {k : Nat} {sh : gx_Sh} (h : sh_all[k]? = some sh) : (gx_w ad cT S L)[k]? = some (ad k, gx_ce ad cT sh (S k) (L k)) := by
  unfold gx_w
  rw [List.getElem?_mapIdx, h]
  rfl
def gx_up (S : gx_S) (k : Nat) (f : Nat → Int32) : gx_S := fun i => if i = k then f else S i
def gx_uL (L : gx_L) (k : Nat) (v : Int64) : gx_L := fun i => if i = k then v else L i
theorem gx_w_set {ad : Nat → Nat} {cT : Nat → ClassId} {S S' : gx_S} {L L' : gx_L} {k : Nat} {sh : gx_Sh} (h : sh_all[k]? = some sh) {e : va_E} (he : e = gx_ce ad cT sh (S' k) (L' k)) (h1 : ∀ i, i ≠ k → S' i = S i) (h2 : ∀ i, i ≠ k → L' i = L i) : (gx_w ad cT S L).set k (ad k, e) = gx_w ad cT S' L' := by
  apply List.ext_getElem?
  intro i
  unfold gx_w
  rw [List.getElem?_set, List.getElem?_mapIdx, List.getElem?_mapIdx]
  have hk : k < sh_all.length := (List.getElem?_eq_some_iff.mp h).1
  by_cases hi : k = i
  · subst hi
    rw [if_pos rfl, if_pos (by rw [List.length_mapIdx]; exact hk), h, he]
    rfl
  · rw [if_neg hi, h1 i (Ne.symm hi), h2 i (Ne.symm hi)]
theorem gx_up_at (S : gx_S) (k : Nat) (f : Nat → Int32) : gx_up S k f k = f := if_pos rfl
theorem gx_up_ne (S : gx_S) {k i : Nat} (f : Nat → Int32) (h : i ≠ k) : gx_up S k f i = S i := if_neg h
theorem gx_uL_at (L : gx_L) (k : Nat) (v : Int64) : gx_uL L k v k = v := if_pos rfl
theorem gx_uL_ne (L : gx_L) {k i : Nat} (v : Int64) (h : i ≠ k) : gx_uL L k v i = L i := if_neg h
/-- class and field of a cell: 0 an int, 1 a long, r + 2 the cell r -/
def gx_tp (o ci k : Nat) : Option Nat := match sh_all[o]? with
  | some (.inr q) => if q.1 = ci then q.2[k]? else none
  | _ => none
def gx_ar (o : Nat) : Option (Nat × Nat) := match sh_all[o]? with
  | some (.inl q) => some q
  | _ => none
theorem gx_tp_spec {o ci k t : Nat} (h : gx_tp o ci k = some t) : ∃ tm : List Nat, sh_all[o]? = some (.inr (ci, tm)) ∧ tm[k]? = some t := by
  unfold gx_tp at h
  split at h
  · rename_i q hq
    split at h
    · rename_i h1
      subst h1
      exact ⟨q.2, hq, h⟩
    · cases h
  · cases h
theorem gx_ar_spec {o : Nat} {q : Nat × Nat} (h : gx_ar o = some q) : sh_all[o]? = some (.inl q) := by
  unfold gx_ar at h
  split at h
  · rename_i q' hq
    cases h
    exact hq
  · cases h
/-! ===== words of the tables ===== -/
/-- a field's link, its own class's or a nest mate's -/
def gx_FL (own : String) (idx ci k : Nat) : Prop := ∃ (C : String) (T : u_T) (N : Nat), vwCl[ci]? = some (C, T, N) ∧ k < N ∧ (∀ w ∈ u_ws C T N, w ∈ gw_tbl) ∧
  (Cond.fieldLink own idx (T k).1 (T k).2.1 (T k).2.2.1 ∈ gw_tbl ∨ ∃ host : String, Cond.fieldLinkNest own idx (T k).1 (T k).2.1 (T k).2.2.1 host ∈ gn_tbl)
/-- the same, of a field that is written -/
def gx_FP (own : String) (idx ci k : Nat) (ty : FieldType) : Prop := ∃ (C : String) (T : u_T) (N : Nat) (ty0 : Nat → FieldType), vwCl[ci]? = some (C, T, N) ∧ k < N ∧ (∀ w ∈ u_ws C T N, w ∈ gw_tbl) ∧
  (Cond.fieldLink own idx (T k).1 (T k).2.1 (T k).2.2.1 ∈ gw_tbl ∨ ∃ host : String, Cond.fieldLinkNest own idx (T k).1 (T k).2.1 (T k).2.2.1 host ∈ gn_tbl) ∧
  (∀ k, k < N → parseFieldDescriptor (T k).2.2.1 = some (ty0 k)) ∧ (∀ a, a < N → ∀ b, b < N → a ≠ b → (T a).2.1 ≠ (T b).2.1) ∧ (T k).2.2.2 = false ∧ parseFieldDescriptor (T k).2.2.1 = some ty
/-- a method's link -/
def gx_Lk (own : String) (idx : Nat) (y : MethodName) : Prop := Cond.methodLink own idx y ∈ gw_tbl ∨ ∃ host : String, Cond.methodLinkNest own idx y host ∈ gn_tbl
/-- a method of objects, of n parameters -/
def gx_MV (M : gx_M) (n : Nat) : Prop := Cond.instanceMethod M.1 ∈ gw_tbl ∧ Cond.selects M.1.cls M.1 M.1 ∈ gw_tbl ∧ Cond.initialized M.1.cls ∈ gw_tbl ∧ Cond.code M.1 M.2.1 M.2.2.1 M.2.2.2 ∈ gw_tbl ∧ M.1.cls ≠ "java/lang/invoke/MethodHandle" ∧ M.1.cls ≠ "java/lang/invoke/VarHandle" ∧ (parseMethodDescriptor M.1.desc).map (fun d => d.parameters.length) = some n ∧ M.2.2.1 ≤ 45
/-- a static method, of n parameters -/
def gx_MS (M : gx_M) (n : Nat) : Prop := Cond.static M.1 ∈ gw_tbl ∧ Cond.initialized M.1.cls ∈ gw_tbl ∧ Cond.code M.1 M.2.1 M.2.2.1 M.2.2.2 ∈ gw_tbl ∧ M.1.cls ≠ "java/lang/invoke/MethodHandle" ∧ M.1.cls ≠ "java/lang/invoke/VarHandle" ∧ (parseMethodDescriptor M.1.desc).map (fun d => d.parameters.length) = some n ∧ M.2.2.1 ≤ 45
theorem gx_goodIn {M : gx_M} (h : Cond.code M.1 M.2.1 M.2.2.1 M.2.2.2 ∈ gw_tbl) : GoodIn gw_tbl (.code M.1 M.2.1 M.2.2.1 M.2.2.2 :: gw_tbl) := by
  intro w hw
  have h1 : w ∈ gw_tbl := by
    rcases List.mem_cons.mp hw with e | e
    · rw [e]; exact h
    · exact e
  exact ⟨h1, good_of_word (List.all_eq_true.mp gx_good w h1)⟩
/-! ===== the walk's steps ===== -/
section GXS
variable {M : gx_M} {d pc : Nat} {loc lr : List (Option Value)} {st : List Value} {S : gx_S} {L : gx_L} {Q : Option Value → gx_S → gx_L → Prop} {l0 l1 l2 l3 l4 l5 l6 l7 l8 l9 l10 l11 : Option Value}
theorem ev_aload_g {i n : Nat} {k : Nat} (hl : loc[i]? = some (some (.ref k))) (hd : (∃ f : Fin 4, (f : Nat) = i ∧ decode M.2.1 pc = .ok (.aload_n f, 1) ∧ n = 1) ∨ (decode M.2.1 pc = .ok (.aload i, 2) ∧ n = 2)) (kk : Ev M d (pc + n) loc (.ref k :: st) S L Q) : Ev M d pc loc st S L Q := by
  intro p l e R s m args below meth c ad cT D A C H locs ls hP hD hS hl'
  have h1 := hl'.2.2.2 _ _ hl
  have k1 := kk p l e R s m args below meth c ad cT D A C H locs ls hP hD hS hl'
  rcases hd with ⟨f, hf, h, rfl⟩ | ⟨h, rfl⟩
  · exact lv_aload_n C.1 C.2.1 h hf h1 k1
  · exact lv_aload C.1 C.2.1 h h1 k1
theorem ev_iload_g {i n : Nat} {x : Int32} (hl : loc[i]? = some (some (.int x))) (hd : (∃ f : Fin 4, (f : Nat) = i ∧ decode M.2.1 pc = .ok (.iload_n f, 1) ∧ n = 1) ∨ (decode M.2.1 pc = .ok (.iload i, 2) ∧ n = 2)) (kk : Ev M d (pc + n) loc (.int x :: st) S L Q) : Ev M d pc loc st S L Q := by
  intro p l e R s m args below meth c ad cT D A C H locs ls hP hD hS hl'
  have h1 := hl'.2.2.2 _ _ hl
  have k1 := kk p l e R s m args below meth c ad cT D A C H locs ls hP hD hS hl'
  rcases hd with ⟨f, hf, h, rfl⟩ | ⟨h, rfl⟩
  · exact lv_iload_n C.1 C.2.1 h hf h1 k1
  · exact lv_iload C.1 C.2.1 h h1 k1
theorem ev_lload_g {i n : Nat} {x : Int64} (hl : loc[i]? = some (some (.long x))) (hd : (∃ f : Fin 4, (f : Nat) = i ∧ decode M.2.1 pc = .ok (.lload_n f, 1) ∧ n = 1) ∨ (decode M.2.1 pc = .ok (.lload i, 2) ∧ n = 2)) (kk : Ev M d (pc + n) loc (.long x :: st) S L Q) : Ev M d pc loc st S L Q := by
  intro p l e R s m args below meth c ad cT D A C H locs ls hP hD hS hl'
  have h1 := hl'.2.2.2 _ _ hl
  have k1 := kk p l e R s m args below meth c ad cT D A C H locs ls hP hD hS hl'
  rcases hd with ⟨f, hf, h, rfl⟩ | ⟨h, rfl⟩
  · exact lv_lload_n C.1 C.2.1 h hf h1 k1
  · exact lv_lload C.1 C.2.1 h h1 k1
/-- the locals as the kit's rows have them -/
def gx_al (ad : Nat → Nat) (loc : List (Option Value)) : List (Nat × Value) := (List.range loc.length).filterMap (fun i => match loc[i]? with
  | some (some v) => some (i, gx_v ad v)
  | _ => none)
theorem gx_al_mem {ad : Nat → Nat} {loc : List (Option Value)} {q : Nat × Value} : q ∈ gx_al ad loc ↔ ∃ v, loc[q.1]? = some (some v) ∧ q.2 = gx_v ad v := by
  unfold gx_al
  rw [List.mem_filterMap]
  constructor
  · rintro ⟨i, hi, h⟩
    split at h
    · rename_i v hv
      cases h
      exact ⟨v, hv, rfl⟩
    · cases h
  · rintro ⟨v, h1, h2⟩
    refine ⟨q.1, List.mem_range.mpr (List.getElem?_eq_some_iff.mp h1).1, ?_⟩
    rw [h1]
    show some (q.1, gx_v ad v) = some q
    rw [← h2]
theorem gx_lr_has {ad : Nat → Nat} {ls : Array Slot} {nL : Nat} {loc : List (Option Value)} (h : gx_lr ad ls nL loc) : lv_has ls nL (gx_al ad loc) := by
  refine ⟨h.1, h.2.1, fun q hq => ?_⟩
  obtain ⟨v, h1, h2⟩ := gx_al_mem.mp hq
  rw [h2]
  exact h.2.2.2 _ _ h1
/-- no long reaches into the place i -/
def gx_nl (loc : List (Option Value)) (i : Nat) : Bool := match i with
  | 0 => true
  | j + 1 => match loc[j]? with
    | some (some v) => v.category != 2
    | _ => true
theorem gx_v_cat (ad : Nat → Nat) (v : Value) : (gx_v ad v).category = v.category := by cases v <;> rfl
theorem gx_lr_set1 {ad : Nat → Nat} {ls' : Array Slot} {nL i : Nat} {loc : List (Option Value)} {v : Value} (hlen : loc.length ≤ nL) (hn : gx_nl loc i = true) (h : lv_has ls' nL ((i, gx_v ad v) :: (gx_al ad loc).filter (fun q => !(q.1 == i) && !(q.1 + 1 == i && q.2.category == 2)))) : gx_lr ad ls' nL (loc.set i (some v)) := by
  refine ⟨h.1, h.2.1, by rw [List.length_set]; exact hlen, fun j w hj => ?_⟩
  rw [List.getElem?_set] at hj
  by_cases hij : i = j
  · subst hij
    rw [if_pos rfl] at hj
    split at hj
    · cases hj
      exact h.2.2 (i, gx_v ad v) List.mem_cons_self
    · cases hj
  · rw [if_neg hij] at hj
    refine h.2.2 (j, gx_v ad w) (List.mem_cons_of_mem _ (List.mem_filter.mpr ⟨gx_al_mem.mpr ⟨w, hj, rfl⟩, ?_⟩))
    have h1 : (j == i) = false := by simp [Ne.symm hij]
    have h2 : (j + 1 == i && (gx_v ad w).category == 2) = false := by
      rw [gx_v_cat]
      by_cases h3 : j + 1 = i
      · subst h3
        have h4 : (w.category != 2) = true := by
          have h5 := hn
          unfold gx_nl at h5
          simp only [hj] at h5
          exact h5
        simp at h4 ⊢
        exact h4
      · simp [h3]
    simp only [h1, h2]
    rfl
theorem ev_store_g {i n : Nat} {x : Int32} (hi : i < M.2.2.1) (hn : gx_nl loc i = true) (hd : (∃ f : Fin 4, (f : Nat) = i ∧ decode M.2.1 pc = .ok (.istore_n f, 1) ∧ n = 1) ∨ (decode M.2.1 pc = .ok (.istore i, 2) ∧ n = 2)) (kk : Ev M d (pc + n) (loc.set i (some (.int x))) st S L Q) : Ev M d pc loc (.int x :: st) S L Q := by
  intro p l e R s m args below meth c ad cT D A C H locs ls hP hD hS hl'
  have k1 := fun ls h => kk p l e R s m args below meth c ad cT D A C H locs ls hP hD hS h
  rcases hd with ⟨f, hf, h, rfl⟩ | ⟨h, rfl⟩
  · exact lv_istore_n C.1 C.2.1 h hf (gx_lr_has hl') hi rfl (fun ls' h' => k1 ls' (gx_lr_set1 (v := .int x) hl'.2.2.1 hn h'))
  · exact lv_istore C.1 C.2.1 h (gx_lr_has hl') hi rfl (fun ls' h' => k1 ls' (gx_lr_set1 (v := .int x) hl'.2.2.1 hn h'))
theorem ev_iinc_g {i : Nat} {n : Int} {x v : Int32} (hl : loc[i]? = some (some (.int x))) (hi : i < M.2.2.1) (hn : gx_nl loc i = true) (hd : decode M.2.1 pc = .ok (.iinc i n, 3)) (hv : x + Int32.ofInt n = v) (kk : Ev M d (pc + 3) (loc.set i (some (.int v))) st S L Q) : Ev M d pc loc st S L Q := by
  intro p l e R s m args below meth c ad cT D A C H locs ls hP hD hS hl'
  obtain ⟨k, hk⟩ := List.getElem?_of_mem (gx_al_mem (ad := ad) (q := (i, Value.int x)) |>.mpr ⟨.int x, hl, rfl⟩)
  exact lv_iinc C.1 C.2.1 hd (gx_lr_has hl') hk hv hi rfl (fun ls' h' => kk p l e R s m args below meth c ad cT D A C H locs ls' hP hD hS (gx_lr_set1 (v := .int v) hl'.2.2.1 hn h'))
theorem gx_lr_set2 {ad : Nat → Nat} {ls' : Array Slot} {nL i : Nat} {loc : List (Option Value)} {v : Value} (hlen : loc.length ≤ nL) (hn : gx_nl loc i = true) (h : lv_has ls' nL ((i, gx_v ad v) :: (gx_al ad loc).filter (fun q => !(q.1 == i) && (!(q.1 == i + 1) && !(q.1 + 1 == i && q.2.category == 2))))) : gx_lr ad ls' nL ((loc.set i (some v)).set (i + 1) none) := by
  refine ⟨h.1, h.2.1, by rw [List.length_set, List.length_set]; exact hlen, fun j w hj => ?_⟩
  rw [List.getElem?_set] at hj
  by_cases hij1 : i + 1 = j
  · subst hij1
    rw [if_pos rfl] at hj
    split at hj <;> cases hj
  · rw [if_neg hij1, List.getElem?_set] at hj
    by_cases hij : i = j
    · subst hij
      rw [if_pos rfl] at hj
      split at hj
      · cases hj
        exact h.2.2 (i, gx_v ad v) List.mem_cons_self
      · cases hj
    · rw [if_neg hij] at hj
      refine h.2.2 (j, gx_v ad w) (List.mem_cons_of_mem _ (List.mem_filter.mpr ⟨gx_al_mem.mpr ⟨w, hj, rfl⟩, ?_⟩))
      have h0 : (j == i + 1) = false := by simp [Ne.symm hij1]
      have h1 : (j == i) = false := by simp [Ne.symm hij]
      have h2 : (j + 1 == i && (gx_v ad w).category == 2) = false := by
        rw [gx_v_cat]
        by_cases h3 : j + 1 = i
        · subst h3
          have h4 : (w.category != 2) = true := by
            have h5 := hn
            unfold gx_nl at h5
            simp only [hj] at h5
            exact h5
          simp at h4 ⊢
          exact h4
        · simp [h3]
      simp only [h0, h1, h2]
      rfl
theorem ev_lstore_g {i n : Nat} {x : Int64} (hi : i + 1 < M.2.2.1) (hn : gx_nl loc i = true) (hd : (∃ f : Fin 4, (f : Nat) = i ∧ decode M.2.1 pc = .ok (.lstore_n f, 1) ∧ n = 1) ∨ (decode M.2.1 pc = .ok (.lstore i, 2) ∧ n = 2)) (kk : Ev M d (pc + n) ((loc.set i (some (.long x))).set (i + 1) none) st S L Q) : Ev M d pc loc (.long x :: st) S L Q := by
  intro p l e R s m args below meth c ad cT D A C H locs ls hP hD hS hl'
  have k1 := fun ls h => kk p l e R s m args below meth c ad cT D A C H locs ls hP hD hS h
  rcases hd with ⟨f, hf, h, rfl⟩ | ⟨h, rfl⟩
  · exact lv_lstore_n C.1 C.2.1 h hf (gx_lr_has hl') hi rfl (fun ls' h' => k1 ls' (gx_lr_set2 (v := .long x) hl'.2.2.1 hn h'))
  · exact lv_lstore C.1 C.2.1 h (gx_lr_has hl') hi rfl (fun ls' h' => k1 ls' (gx_lr_set2 (v := .long x) hl'.2.2.1 hn h'))
end GXS
end
section
section GXT
variable {M : gx_M} {d pc : Nat} {loc lr : List (Option Value)} {st : List Value} {S : gx_S} {L : gx_L} {Q : Option Value → gx_S → gx_L → Prop} {l0 l1 l2 l3 l4 l5 l6 l7 l8 l9 l10 l11 l12 : Option Value}
theorem ev_ald0 {x : Nat} (hd : decode M.2.1 pc = .ok (.aload_n 0, 1)) (kk : Ev M d (pc + 1) (some (.ref x) :: lr) (.ref x :: st) S L Q) : Ev M d pc (some (.ref x) :: lr) st S L Q := ev_aload_g (i := 0) rfl (Or.inl ⟨0, rfl, hd, rfl⟩) kk
theorem ev_ild0 {x : Int32} (hd : decode M.2.1 pc = .ok (.iload_n 0, 1)) (kk : Ev M d (pc + 1) (some (.int x) :: lr) (.int x :: st) S L Q) : Ev M d pc (some (.int x) :: lr) st S L Q := ev_iload_g (i := 0) rfl (Or.inl ⟨0, rfl, hd, rfl⟩) kk
theorem ev_lld0 {x : Int64} (hd : decode M.2.1 pc = .ok (.lload_n 0, 1)) (kk : Ev M d (pc + 1) (some (.long x) :: lr) (.long x :: st) S L Q) : Ev M d pc (some (.long x) :: lr) st S L Q := ev_lload_g (i := 0) rfl (Or.inl ⟨0, rfl, hd, rfl⟩) kk
theorem ev_ist0 {x : Int32} (hd : decode M.2.1 pc = .ok (.istore_n 0, 1)) (kk : Ev M d (pc + 1) (some (.int x) :: lr) st S L Q) (hi : 0 < M.2.2.1 := by decide) : Ev M d pc (l0 :: lr) (.int x :: st) S L Q := ev_store_g (i := 0) hi rfl (Or.inl ⟨0, rfl, hd, rfl⟩) kk
theorem ev_lst0 {x : Int64} (hd : decode M.2.1 pc = .ok (.lstore_n 0, 1)) (kk : Ev M d (pc + 1) (some (.long x) :: none :: lr) st S L Q) (hi : 0 + 1 < M.2.2.1 := by decide) : Ev M d pc (l0 :: l1 :: lr) (.long x :: st) S L Q := ev_lstore_g (i := 0) hi rfl (Or.inl ⟨0, rfl, hd, rfl⟩) kk
theorem ev_inc0 {n : Int} {x v : Int32} (hd : decode M.2.1 pc = .ok (.iinc 0 n, 3)) (hv : x + Int32.ofInt n = v) (kk : Ev M d (pc + 3) (some (.int v) :: lr) st S L Q) (hi : 0 < M.2.2.1 := by decide) : Ev M d pc (some (.int x) :: lr) st S L Q := ev_iinc_g (i := 0) rfl hi rfl hd hv kk
theorem ev_ald1 {x : Nat} (hd : decode M.2.1 pc = .ok (.aload_n 1, 1)) (kk : Ev M d (pc + 1) (l0 :: some (.ref x) :: lr) (.ref x :: st) S L Q) : Ev M d pc (l0 :: some (.ref x) :: lr) st S L Q := ev_aload_g (i := 1) rfl (Or.inl ⟨1, rfl, hd, rfl⟩) kk
theorem ev_ild1 {x : Int32} (hd : decode M.2.1 pc = .ok (.iload_n 1, 1)) (kk : Ev M d (pc + 1) (l0 :: some (.int x) :: lr) (.int x :: st) S L Q) : Ev M d pc (l0 :: some (.int x) :: lr) st S L Q := ev_iload_g (i := 1) rfl (Or.inl ⟨1, rfl, hd, rfl⟩) kk
theorem ev_lld1 {x : Int64} (hd : decode M.2.1 pc = .ok (.lload_n 1, 1)) (kk : Ev M d (pc + 1) (l0 :: some (.long x) :: lr) (.long x :: st) S L Q) : Ev M d pc (l0 :: some (.long x) :: lr) st S L Q := ev_lload_g (i := 1) rfl (Or.inl ⟨1, rfl, hd, rfl⟩) kk
theorem ev_ist1 {x : Int32} (hd : decode M.2.1 pc = .ok (.istore_n 1, 1)) (kk : Ev M d (pc + 1) (l0 :: some (.int x) :: lr) st S L Q) (hi : 1 < M.2.2.1 := by decide) (hn : gx_nl (l0 :: l1 :: lr) 1 = true := by rfl) : Ev M d pc (l0 :: l1 :: lr) (.int x :: st) S L Q := ev_store_g (i := 1) hi hn (Or.inl ⟨1, rfl, hd, rfl⟩) kk
theorem ev_lst1 {x : Int64} (hd : decode M.2.1 pc = .ok (.lstore_n 1, 1)) (kk : Ev M d (pc + 1) (l0 :: some (.long x) :: none :: lr) st S L Q) (hi : 1 + 1 < M.2.2.1 := by decide) (hn : gx_nl (l0 :: l1 :: l2 :: lr) 1 = true := by rfl) : Ev M d pc (l0 :: l1 :: l2 :: lr) (.long x :: st) S L Q := ev_lstore_g (i := 1) hi hn (Or.inl ⟨1, rfl, hd, rfl⟩) kk
theorem ev_inc1 {n : Int} {x v : Int32} (hd : decode M.2.1 pc = .ok (.iinc 1 n, 3)) (hv : x + Int32.ofInt n = v) (kk : Ev M d (pc + 3) (l0 :: some (.int v) :: lr) st S L Q) (hi : 1 < M.2.2.1 := by decide) (hn : gx_nl (l0 :: some (.int x) :: lr) 1 = true := by rfl) : Ev M d pc (l0 :: some (.int x) :: lr) st S L Q := ev_iinc_g (i := 1) rfl hi hn hd hv kk
theorem ev_ald2 {x : Nat} (hd : decode M.2.1 pc = .ok (.aload_n 2, 1)) (kk : Ev M d (pc + 1) (l0 :: l1 :: some (.ref x) :: lr) (.ref x :: st) S L Q) : Ev M d pc (l0 :: l1 :: some (.ref x) :: lr) st S L Q := ev_aload_g (i := 2) rfl (Or.inl ⟨2, rfl, hd, rfl⟩) kk
theorem ev_ild2 {x : Int32} (hd : decode M.2.1 pc = .ok (.iload_n 2, 1)) (kk : Ev M d (pc + 1) (l0 :: l1 :: some (.int x) :: lr) (.int x :: st) S L Q) : Ev M d pc (l0 :: l1 :: some (.int x) :: lr) st S L Q := ev_iload_g (i := 2) rfl (Or.inl ⟨2, rfl, hd, rfl⟩) kk
theorem ev_lld2 {x : Int64} (hd : decode M.2.1 pc = .ok (.lload_n 2, 1)) (kk : Ev M d (pc + 1) (l0 :: l1 :: some (.long x) :: lr) (.long x :: st) S L Q) : Ev M d pc (l0 :: l1 :: some (.long x) :: lr) st S L Q := ev_lload_g (i := 2) rfl (Or.inl ⟨2, rfl, hd, rfl⟩) kk
theorem ev_ist2 {x : Int32} (hd : decode M.2.1 pc = .ok (.istore_n 2, 1)) (kk : Ev M d (pc + 1) (l0 :: l1 :: some (.int x) :: lr) st S L Q) (hi : 2 < M.2.2.1 := by decide) (hn : gx_nl (l0 :: l1 :: l2 :: lr) 2 = true := by rfl) : Ev M d pc (l0 :: l1 :: l2 :: lr) (.int x :: st) S L Q := ev_store_g (i := 2) hi hn (Or.inl ⟨2, rfl, hd, rfl⟩) kk
theorem ev_lst2 {x : Int64} (hd : decode M.2.1 pc = .ok (.lstore_n 2, 1)) (kk : Ev M d (pc + 1) (l0 :: l1 :: some (.long x) :: none :: lr) st S L Q) (hi : 2 + 1 < M.2.2.1 := by decide) (hn : gx_nl (l0 :: l1 :: l2 :: l3 :: lr) 2 = true := by rfl) : Ev M d pc (l0 :: l1 :: l2 :: l3 :: lr) (.long x :: st) S L Q := ev_lstore_g (i := 2) hi hn (Or.inl ⟨2, rfl, hd, rfl⟩) kk
theorem ev_inc2 {n : Int} {x v : Int32} (hd : decode M.2.1 pc = .ok (.iinc 2 n, 3)) (hv : x + Int32.ofInt n = v) (kk : Ev M d (pc + 3) (l0 :: l1 :: some (.int v) :: lr) st S L Q) (hi : 2 < M.2.2.1 := by decide) (hn : gx_nl (l0 :: l1 :: some (.int x) :: lr) 2 = true := by rfl) : Ev M d pc (l0 :: l1 :: some (.int x) :: lr) st S L Q := ev_iinc_g (i := 2) rfl hi hn hd hv kk
theorem ev_ald3 {x : Nat} (hd : decode M.2.1 pc = .ok (.aload_n 3, 1)) (kk : Ev M d (pc + 1) (l0 :: l1 :: l2 :: some (.ref x) :: lr) (.ref x :: st) S L Q) : Ev M d pc (l0 :: l1 :: l2 :: some (.ref x) :: lr) st S L Q := ev_aload_g (i := 3) rfl (Or.inl ⟨3, rfl, hd, rfl⟩) kk
theorem ev_ild3 {x : Int32} (hd : decode M.2.1 pc = .ok (.iload_n 3, 1)) (kk : Ev M d (pc + 1) (l0 :: l1 :: l2 :: some (.int x) :: lr) (.int x :: st) S L Q) : Ev M d pc (l0 :: l1 :: l2 :: some (.int x) :: lr) st S L Q := ev_iload_g (i := 3) rfl (Or.inl ⟨3, rfl, hd, rfl⟩) kk
theorem ev_lld3 {x : Int64} (hd : decode M.2.1 pc = .ok (.lload_n 3, 1)) (kk : Ev M d (pc + 1) (l0 :: l1 :: l2 :: some (.long x) :: lr) (.long x :: st) S L Q) : Ev M d pc (l0 :: l1 :: l2 :: some (.long x) :: lr) st S L Q := ev_lload_g (i := 3) rfl (Or.inl ⟨3, rfl, hd, rfl⟩) kk
theorem ev_ist3 {x : Int32} (hd : decode M.2.1 pc = .ok (.istore_n 3, 1)) (kk : Ev M d (pc + 1) (l0 :: l1 :: l2 :: some (.int x) :: lr) st S L Q) (hi : 3 < M.2.2.1 := by decide) (hn : gx_nl (l0 :: l1 :: l2 :: l3 :: lr) 3 = true := by rfl) : Ev M d pc (l0 :: l1 :: l2 :: l3 :: lr) (.int x :: st) S L Q := ev_store_g (i := 3) hi hn (Or.inl ⟨3, rfl, hd, rfl⟩) kk
theorem ev_lst3 {x : Int64} (hd : decode M.2.1 pc = .ok (.lstore_n 3, 1)) (kk : Ev M d (pc + 1) (l0 :: l1 :: l2 :: some (.long x) :: none :: lr) st S L Q) (hi : 3 + 1 < M.2.2.1 := by decide) (hn : gx_nl (l0 :: l1 :: l2 :: l3 :: l4 :: lr) 3 = true := by rfl) : Ev M d pc (l0 :: l1 :: l2 :: l3 :: l4 :: lr) (.long x :: st) S L Q := ev_lstore_g (i := 3) hi hn (Or.inl ⟨3, rfl, hd, rfl⟩) kk
theorem ev_inc3 {n : Int} {x v : Int32} (hd : decode M.2.1 pc = .ok (.iinc 3 n, 3)) (hv : x + Int32.ofInt n = v) (kk : Ev M d (pc + 3) (l0 :: l1 :: l2 :: some (.int v) :: lr) st S L Q) (hi : 3 < M.2.2.1 := by decide) (hn : gx_nl (l0 :: l1 :: l2 :: some (.int x) :: lr) 3 = true := by rfl) : Ev M d pc (l0 :: l1 :: l2 :: some (.int x) :: lr) st S L Q := ev_iinc_g (i := 3) rfl hi hn hd hv kk
theorem ev_ald4 {x : Nat} (hd : decode M.2.1 pc = .ok (.aload 4, 2)) (kk : Ev M d (pc + 2) (l0 :: l1 :: l2 :: l3 :: some (.ref x) :: lr) (.ref x :: st) S L Q) : Ev M d pc (l0 :: l1 :: l2 :: l3 :: some (.ref x) :: lr) st S L Q := ev_aload_g (i := 4) rfl (Or.inr ⟨hd, rfl⟩) kk
theorem ev_ild4 {x : Int32} (hd : decode M.2.1 pc = .ok (.iload 4, 2)) (kk : Ev M d (pc + 2) (l0 :: l1 :: l2 :: l3 :: some (.int x) :: lr) (.int x :: st) S L Q) : Ev M d pc (l0 :: l1 :: l2 :: l3 :: some (.int x) :: lr) st S L Q := ev_iload_g (i := 4) rfl (Or.inr ⟨hd, rfl⟩) kk
theorem ev_lld4 {x : Int64} (hd : decode M.2.1 pc = .ok (.lload 4, 2)) (kk : Ev M d (pc + 2) (l0 :: l1 :: l2 :: l3 :: some (.long x) :: lr) (.long x :: st) S L Q) : Ev M d pc (l0 :: l1 :: l2 :: l3 :: some (.long x) :: lr) st S L Q := ev_lload_g (i := 4) rfl (Or.inr ⟨hd, rfl⟩) kk
theorem ev_ist4 {x : Int32} (hd : decode M.2.1 pc = .ok (.istore 4, 2)) (kk : Ev M d (pc + 2) (l0 :: l1 :: l2 :: l3 :: some (.int x) :: lr) st S L Q) (hi : 4 < M.2.2.1 := by decide) (hn : gx_nl (l0 :: l1 :: l2 :: l3 :: l4 :: lr) 4 = true := by rfl) : Ev M d pc (l0 :: l1 :: l2 :: l3 :: l4 :: lr) (.int x :: st) S L Q := ev_store_g (i := 4) hi hn (Or.inr ⟨hd, rfl⟩) kk
theorem ev_lst4 {x : Int64} (hd : decode M.2.1 pc = .ok (.lstore 4, 2)) (kk : Ev M d (pc + 2) (l0 :: l1 :: l2 :: l3 :: some (.long x) :: none :: lr) st S L Q) (hi : 4 + 1 < M.2.2.1 := by decide) (hn : gx_nl (l0 :: l1 :: l2 :: l3 :: l4 :: l5 :: lr) 4 = true := by rfl) : Ev M d pc (l0 :: l1 :: l2 :: l3 :: l4 :: l5 :: lr) (.long x :: st) S L Q := ev_lstore_g (i := 4) hi hn (Or.inr ⟨hd, rfl⟩) kk
theorem ev_inc4 {n : Int} {x v : Int32} (hd : decode M.2.1 pc = .ok (.iinc 4 n, 3)) (hv : x + Int32.ofInt n = v) (kk : Ev M d (pc + 3) (l0 :: l1 :: l2 :: l3 :: some (.int v) :: lr) st S L Q) (hi : 4 < M.2.2.1 := by decide) (hn : gx_nl (l0 :: l1 :: l2 :: l3 :: some (.int x) :: lr) 4 = true := by rfl) : Ev M d pc (l0 :: l1 :: l2 :: l3 :: some (.int x) :: lr) st S L Q := ev_iinc_g (i := 4) rfl hi hn hd hv kk
theorem ev_ald5 {x : Nat} (hd : decode M.2.1 pc = .ok (.aload 5, 2)) (kk : Ev M d (pc + 2) (l0 :: l1 :: l2 :: l3 :: l4 :: some (.ref x) :: lr) (.ref x :: st) S L Q) : Ev M d pc (l0 :: l1 :: l2 :: l3 :: l4 :: some (.ref x) :: lr) st S L Q := ev_aload_g (i := 5) rfl (Or.inr ⟨hd, rfl⟩) kk
theorem ev_ild5 {x : Int32} (hd : decode M.2.1 pc = .ok (.iload 5, 2)) (kk : Ev M d (pc + 2) (l0 :: l1 :: l2 :: l3 :: l4 :: some (.int x) :: lr) (.int x :: st) S L Q) : Ev M d pc (l0 :: l1 :: l2 :: l3 :: l4 :: some (.int x) :: lr) st S L Q := ev_iload_g (i := 5) rfl (Or.inr ⟨hd, rfl⟩) kk
theorem ev_lld5 {x : Int64} (hd : decode M.2.1 pc = .ok (.lload 5, 2)) (kk : Ev M d (pc + 2) (l0 :: l1 :: l2 :: l3 :: l4 :: some (.long x) :: lr) (.long x :: st) S L Q) : Ev M d pc (l0 :: l1 :: l2 :: l3 :: l4 :: some (.long x) :: lr) st S L Q := ev_lload_g (i := 5) rfl (Or.inr ⟨hd, rfl⟩) kk
theorem ev_ist5 {x : Int32} (hd : decode M.2.1 pc = .ok (.istore 5, 2)) (kk : Ev M d (pc + 2) (l0 :: l1 :: l2 :: l3 :: l4 :: some (.int x) :: lr) st S L Q) (hi : 5 < M.2.2.1 := by decide) (hn : gx_nl (l0 :: l1 :: l2 :: l3 :: l4 :: l5 :: lr) 5 = true := by rfl) : Ev M d pc (l0 :: l1 :: l2 :: l3 :: l4 :: l5 :: lr) (.int x :: st) S L Q := ev_store_g (i := 5) hi hn (Or.inr ⟨hd, rfl⟩) kk
theorem ev_lst5 {x : Int64} (hd : decode M.2.1 pc = .ok (.lstore 5, 2)) (kk : Ev M d (pc + 2) (l0 :: l1 :: l2 :: l3 :: l4 :: some (.long x) :: none :: lr) st S L Q) (hi : 5 + 1 < M.2.2.1 := by decide) (hn : gx_nl (l0 :: l1 :: l2 :: l3 :: l4 :: l5 :: l6 :: lr) 5 = true := by rfl) : Ev M d pc (l0 :: l1 :: l2 :: l3 :: l4 :: l5 :: l6 :: lr) (.long x :: st) S L Q := ev_lstore_g (i := 5) hi hn (Or.inr ⟨hd, rfl⟩) kk
theorem ev_inc5 {n : Int} {x v : Int32} (hd : decode M.2.1 pc = .ok (.iinc 5 n, 3)) (hv : x + Int32.ofInt n = v) (kk : Ev M d (pc + 3) (l0 :: l1 :: l2 :: l3 :: l4 :: some (.int v) :: lr) st S L Q) (hi : 5 < M.2.2.1 := by decide) (hn : gx_nl (l0 :: l1 :: l2 :: l3 :: l4 :: some (.int x) :: lr) 5 = true := by rfl) : Ev M d pc (l0 :: l1 :: l2 :: l3 :: l4 :: some (.int x) :: lr) st S L Q := ev_iinc_g (i := 5) rfl hi hn hd hv kk
theorem ev_ald6 {x : Nat} (hd : decode M.2.1 pc = .ok (.aload 6, 2)) (kk : Ev M d (pc + 2) (l0 :: l1 :: l2 :: l3 :: l4 :: l5 :: some (.ref x) :: lr) (.ref x :: st) S L Q) : Ev M d pc (l0 :: l1 :: l2 :: l3 :: l4 :: l5 :: some (.ref x) :: lr) st S L Q := ev_aload_g (i := 6) rfl (Or.inr ⟨hd, rfl⟩) kk
theorem ev_ild6 {x : Int32} (hd : decode M.2.1 pc = .ok (.iload 6, 2)) (kk : Ev M d (pc + 2) (l0 :: l1 :: l2 :: l3 :: l4 :: l5 :: some (.int x) :: lr) (.int x :: st) S L Q) : Ev M d pc (l0 :: l1 :: l2 :: l3 :: l4 :: l5 :: some (.int x) :: lr) st S L Q := ev_iload_g (i := 6) rfl (Or.inr ⟨hd, rfl⟩) kk
theorem ev_lld6 {x : Int64} (hd : decode M.2.1 pc = .ok (.lload 6, 2)) (kk : Ev M d (pc + 2) (l0 :: l1 :: l2 :: l3 :: l4 :: l5 :: some (.long x) :: lr) (.long x :: st) S L Q) : Ev M d pc (l0 :: l1 :: l2 :: l3 :: l4 :: l5 :: some (.long x) :: lr) st S L Q := ev_lload_g (i := 6) rfl (Or.inr ⟨hd, rfl⟩) kk
theorem ev_ist6 {x : Int32} (hd : decode M.2.1 pc = .ok (.istore 6, 2)) (kk : Ev M d (pc + 2) (l0 :: l1 :: l2 :: l3 :: l4 :: l5 :: some (.int x) :: lr) st S L Q) (hi : 6 < M.2.2.1 := by decide) (hn : gx_nl (l0 :: l1 :: l2 :: l3 :: l4 :: l5 :: l6 :: lr) 6 = true := by rfl) : Ev M d pc (l0 :: l1 :: l2 :: l3 :: l4 :: l5 :: l6 :: lr) (.int x :: st) S L Q := ev_store_g (i := 6) hi hn (Or.inr ⟨hd, rfl⟩) kk
theorem ev_lst6 {x : Int64} (hd : decode M.2.1 pc = .ok (.lstore 6, 2)) (kk : Ev M d (pc + 2) (l0 :: l1 :: l2 :: l3 :: l4 :: l5 :: some (.long x) :: none :: lr) st S L Q) (hi : 6 + 1 < M.2.2.1 := by decide) (hn : gx_nl (l0 :: l1 :: l2 :: l3 :: l4 :: l5 :: l6 :: l7 :: lr) 6 = true := by rfl) : Ev M d pc (l0 :: l1 :: l2 :: l3 :: l4 :: l5 :: l6 :: l7 :: lr) (.long x :: st) S L Q := ev_lstore_g (i := 6) hi hn (Or.inr ⟨hd, rfl⟩) kk
theorem ev_inc6 {n : Int} {x v : Int32} (hd : decode M.2.1 pc = .ok (.iinc 6 n, 3)) (hv : x + Int32.ofInt n = v) (kk : Ev M d (pc + 3) (l0 :: l1 :: l2 :: l3 :: l4 :: l5 :: some (.int v) :: lr) st S L Q) (hi : 6 < M.2.2.1 := by decide) (hn : gx_nl (l0 :: l1 :: l2 :: l3 :: l4 :: l5 :: some (.int x) :: lr) 6 = true := by rfl) : Ev M d pc (l0 :: l1 :: l2 :: l3 :: l4 :: l5 :: some (.int x) :: lr) st S L Q := ev_iinc_g (i := 6) rfl hi hn hd hv kk
theorem ev_ald7 {x : Nat} (hd : decode M.2.1 pc = .ok (.aload 7, 2)) (kk : Ev M d (pc + 2) (l0 :: l1 :: l2 :: l3 :: l4 :: l5 :: l6 :: some (.ref x) :: lr) (.ref x :: st) S L Q) : Ev M d pc (l0 :: l1 :: l2 :: l3 :: l4 :: l5 :: l6 :: some (.ref x) :: lr) st S L Q := ev_aload_g (i := 7) rfl (Or.inr ⟨hd, rfl⟩) kk
theorem ev_ild7 {x : Int32} (hd : decode M.2.1 pc = .ok (.iload 7, 2)) (kk : Ev M d (pc + 2) (l0 :: l1 :: l2 :: l3 :: l4 :: l5 :: l6 :: some (.int x) :: lr) (.int x :: st) S L Q) : Ev M d pc (l0 :: l1 :: l2 :: l3 :: l4 :: l5 :: l6 :: some (.int x) :: lr) st S L Q := ev_iload_g (i := 7) rfl (Or.inr ⟨hd, rfl⟩) kk
theorem ev_lld7 {x : Int64} (hd : decode M.2.1 pc = .ok (.lload 7, 2)) (kk : Ev M d (pc + 2) (l0 :: l1 :: l2 :: l3 :: l4 :: l5 :: l6 :: some (.long x) :: lr) (.long x :: st) S L Q) : Ev M d pc (l0 :: l1 :: l2 :: l3 :: l4 :: l5 :: l6 :: some (.long x) :: lr) st S L Q := ev_lload_g (i := 7) rfl (Or.inr ⟨hd, rfl⟩) kk
theorem ev_ist7 {x : Int32} (hd : decode M.2.1 pc = .ok (.istore 7, 2)) (kk : Ev M d (pc + 2) (l0 :: l1 :: l2 :: l3 :: l4 :: l5 :: l6 :: some (.int x) :: lr) st S L Q) (hi : 7 < M.2.2.1 := by decide) (hn : gx_nl (l0 :: l1 :: l2 :: l3 :: l4 :: l5 :: l6 :: l7 :: lr) 7 = true := by rfl) : Ev M d pc (l0 :: l1 :: l2 :: l3 :: l4 :: l5 :: l6 :: l7 :: lr) (.int x :: st) S L Q := ev_store_g (i := 7) hi hn (Or.inr ⟨hd, rfl⟩) kk
theorem ev_lst7 {x : Int64} (hd : decode M.2.1 pc = .ok (.lstore 7, 2)) (kk : Ev M d (pc + 2) (l0 :: l1 :: l2 :: l3 :: l4 :: l5 :: l6 :: some (.long x) :: none :: lr) st S L Q) (hi : 7 + 1 < M.2.2.1 := by decide) (hn : gx_nl (l0 :: l1 :: l2 :: l3 :: l4 :: l5 :: l6 :: l7 :: l8 :: lr) 7 = true := by rfl) : Ev M d pc (l0 :: l1 :: l2 :: l3 :: l4 :: l5 :: l6 :: l7 :: l8 :: lr) (.long x :: st) S L Q := ev_lstore_g (i := 7) hi hn (Or.inr ⟨hd, rfl⟩) kk
theorem ev_inc7 {n : Int} {x v : Int32} (hd : decode M.2.1 pc = .ok (.iinc 7 n, 3)) (hv : x + Int32.ofInt n = v) (kk : Ev M d (pc + 3) (l0 :: l1 :: l2 :: l3 :: l4 :: l5 :: l6 :: some (.int v) :: lr) st S L Q) (hi : 7 < M.2.2.1 := by decide) (hn : gx_nl (l0 :: l1 :: l2 :: l3 :: l4 :: l5 :: l6 :: some (.int x) :: lr) 7 = true := by rfl) : Ev M d pc (l0 :: l1 :: l2 :: l3 :: l4 :: l5 :: l6 :: some (.int x) :: lr) st S L Q := ev_iinc_g (i := 7) rfl hi hn hd hv kk
theorem ev_ald8 {x : Nat} (hd : decode M.2.1 pc = .ok (.aload 8, 2)) (kk : Ev M d (pc + 2) (l0 :: l1 :: l2 :: l3 :: l4 :: l5 :: l6 :: l7 :: some (.ref x) :: lr) (.ref x :: st) S L Q) : Ev M d pc (l0 :: l1 :: l2 :: l3 :: l4 :: l5 :: l6 :: l7 :: some (.ref x) :: lr) st S L Q := ev_aload_g (i := 8) rfl (Or.inr ⟨hd, rfl⟩) kk
theorem ev_ild8 {x : Int32} (hd : decode M.2.1 pc = .ok (.iload 8, 2)) (kk : Ev M d (pc + 2) (l0 :: l1 :: l2 :: l3 :: l4 :: l5 :: l6 :: l7 :: some (.int x) :: lr) (.int x :: st) S L Q) : Ev M d pc (l0 :: l1 :: l2 :: l3 :: l4 :: l5 :: l6 :: l7 :: some (.int x) :: lr) st S L Q := ev_iload_g (i := 8) rfl (Or.inr ⟨hd, rfl⟩) kk
theorem ev_lld8 {x : Int64} (hd : decode M.2.1 pc = .ok (.lload 8, 2)) (kk : Ev M d (pc + 2) (l0 :: l1 :: l2 :: l3 :: l4 :: l5 :: l6 :: l7 :: some (.long x) :: lr) (.long x :: st) S L Q) : Ev M d pc (l0 :: l1 :: l2 :: l3 :: l4 :: l5 :: l6 :: l7 :: some (.long x) :: lr) st S L Q := ev_lload_g (i := 8) rfl (Or.inr ⟨hd, rfl⟩) kk
theorem ev_ist8 {x : Int32} (hd : decode M.2.1 pc = .ok (.istore 8, 2)) (kk : Ev M d (pc + 2) (l0 :: l1 :: l2 :: l3 :: l4 :: l5 :: l6 :: l7 :: some (.int x) :: lr) st S L Q) (hi : 8 < M.2.2.1 := by decide) (hn : gx_nl (l0 :: l1 :: l2 :: l3 :: l4 :: l5 :: l6 :: l7 :: l8 :: lr) 8 = true := by rfl) : Ev M d pc (l0 :: l1 :: l2 :: l3 :: l4 :: l5 :: l6 :: l7 :: l8 :: lr) (.int x :: st) S L Q := ev_store_g (i := 8) hi hn (Or.inr ⟨hd, rfl⟩) kk
theorem ev_lst8 {x : Int64} (hd : decode M.2.1 pc = .ok (.lstore 8, 2)) (kk : Ev M d (pc + 2) (l0 :: l1 :: l2 :: l3 :: l4 :: l5 :: l6 :: l7 :: some (.long x) :: none :: lr) st S L Q) (hi : 8 + 1 < M.2.2.1 := by decide) (hn : gx_nl (l0 :: l1 :: l2 :: l3 :: l4 :: l5 :: l6 :: l7 :: l8 :: l9 :: lr) 8 = true := by rfl) : Ev M d pc (l0 :: l1 :: l2 :: l3 :: l4 :: l5 :: l6 :: l7 :: l8 :: l9 :: lr) (.long x :: st) S L Q := ev_lstore_g (i := 8) hi hn (Or.inr ⟨hd, rfl⟩) kk
theorem ev_inc8 {n : Int} {x v : Int32} (hd : decode M.2.1 pc = .ok (.iinc 8 n, 3)) (hv : x + Int32.ofInt n = v) (kk : Ev M d (pc + 3) (l0 :: l1 :: l2 :: l3 :: l4 :: l5 :: l6 :: l7 :: some (.int v) :: lr) st S L Q) (hi : 8 < M.2.2.1 := by decide) (hn : gx_nl (l0 :: l1 :: l2 :: l3 :: l4 :: l5 :: l6 :: l7 :: some (.int x) :: lr) 8 = true := by rfl) : Ev M d pc (l0 :: l1 :: l2 :: l3 :: l4 :: l5 :: l6 :: l7 :: some (.int x) :: lr) st S L Q := ev_iinc_g (i := 8) rfl hi hn hd hv kk
theorem ev_ald9 {x : Nat} (hd : decode M.2.1 pc = .ok (.aload 9, 2)) (kk : Ev M d (pc + 2) (l0 :: l1 :: l2 :: l3 :: l4 :: l5 :: l6 :: l7 :: l8 :: some (.ref x) :: lr) (.ref x :: st) S L Q) : Ev M d pc (l0 :: l1 :: l2 :: l3 :: l4 :: l5 :: l6 :: l7 :: l8 :: some (.ref x) :: lr) st S L Q := ev_aload_g (i := 9) rfl (Or.inr ⟨hd, rfl⟩) kk
theorem ev_ild9 {x : Int32} (hd : decode M.2.1 pc = .ok (.iload 9, 2)) (kk : Ev M d (pc + 2) (l0 :: l1 :: l2 :: l3 :: l4 :: l5 :: l6 :: l7 :: l8 :: some (.int x) :: lr) (.int x :: st) S L Q) : Ev M d pc (l0 :: l1 :: l2 :: l3 :: l4 :: l5 :: l6 :: l7 :: l8 :: some (.int x) :: lr) st S L Q := ev_iload_g (i := 9) rfl (Or.inr ⟨hd, rfl⟩) kk
theorem ev_lld9 {x : Int64} (hd : decode M.2.1 pc = .ok (.lload 9, 2)) (kk : Ev M d (pc + 2) (l0 :: l1 :: l2 :: l3 :: l4 :: l5 :: l6 :: l7 :: l8 :: some (.long x) :: lr) (.long x :: st) S L Q) : Ev M d pc (l0 :: l1 :: l2 :: l3 :: l4 :: l5 :: l6 :: l7 :: l8 :: some (.long x) :: lr) st S L Q := ev_lload_g (i := 9) rfl (Or.inr ⟨hd, rfl⟩) kk
theorem ev_ist9 {x : Int32} (hd : decode M.2.1 pc = .ok (.istore 9, 2)) (kk : Ev M d (pc + 2) (l0 :: l1 :: l2 :: l3 :: l4 :: l5 :: l6 :: l7 :: l8 :: some (.int x) :: lr) st S L Q) (hi : 9 < M.2.2.1 := by decide) (hn : gx_nl (l0 :: l1 :: l2 :: l3 :: l4 :: l5 :: l6 :: l7 :: l8 :: l9 :: lr) 9 = true := by rfl) : Ev M d pc (l0 :: l1 :: l2 :: l3 :: l4 :: l5 :: l6 :: l7 :: l8 :: l9 :: lr) (.int x :: st) S L Q := ev_store_g (i := 9) hi hn (Or.inr ⟨hd, rfl⟩) kk
theorem ev_lst9 {x : Int64} (hd : decode M.2.1 pc = .ok (.lstore 9, 2)) (kk : Ev M d (pc + 2) (l0 :: l1 :: l2 :: l3 :: l4 :: l5 :: l6 :: l7 :: l8 :: some (.long x) :: none :: lr) st S L Q) (hi : 9 + 1 < M.2.2.1 := by decide) (hn : gx_nl (l0 :: l1 :: l2 :: l3 :: l4 :: l5 :: l6 :: l7 :: l8 :: l9 :: l10 :: lr) 9 = true := by rfl) : Ev M d pc (l0 :: l1 :: l2 :: l3 :: l4 :: l5 :: l6 :: l7 :: l8 :: l9 :: l10 :: lr) (.long x :: st) S L Q := ev_lstore_g (i := 9) hi hn (Or.inr ⟨hd, rfl⟩) kk
theorem ev_inc9 {n : Int} {x v : Int32} (hd : decode M.2.1 pc = .ok (.iinc 9 n, 3)) (hv : x + Int32.ofInt n = v) (kk : Ev M d (pc + 3) (l0 :: l1 :: l2 :: l3 :: l4 :: l5 :: l6 :: l7 :: l8 :: some (.int v) :: lr) st S L Q) (hi : 9 < M.2.2.1 := by decide) (hn : gx_nl (l0 :: l1 :: l2 :: l3 :: l4 :: l5 :: l6 :: l7 :: l8 :: some (.int x) :: lr) 9 = true := by rfl) : Ev M d pc (l0 :: l1 :: l2 :: l3 :: l4 :: l5 :: l6 :: l7 :: l8 :: some (.int x) :: lr) st S L Q := ev_iinc_g (i := 9) rfl hi hn hd hv kk
theorem ev_ald10 {x : Nat} (hd : decode M.2.1 pc = .ok (.aload 10, 2)) (kk : Ev M d (pc + 2) (l0 :: l1 :: l2 :: l3 :: l4 :: l5 :: l6 :: l7 :: l8 :: l9 :: some (.ref x) :: lr) (.ref x :: st) S L Q) : Ev M d pc (l0 :: l1 :: l2 :: l3 :: l4 :: l5 :: l6 :: l7 :: l8 :: l9 :: some (.ref x) :: lr) st S L Q := ev_aload_g (i := 10) rfl (Or.inr ⟨hd, rfl⟩) kk
theorem ev_ild10 {x : Int32} (hd : decode M.2.1 pc = .ok (.iload 10, 2)) (kk : Ev M d (pc + 2) (l0 :: l1 :: l2 :: l3 :: l4 :: l5 :: l6 :: l7 :: l8 :: l9 :: some (.int x) :: lr) (.int x :: st) S L Q) : Ev M d pc (l0 :: l1 :: l2 :: l3 :: l4 :: l5 :: l6 :: l7 :: l8 :: l9 :: some (.int x) :: lr) st S L Q := ev_iload_g (i := 10) rfl (Or.inr ⟨hd, rfl⟩) kk
theorem ev_lld10 {x : Int64} (hd : decode M.2.1 pc = .ok (.lload 10, 2)) (kk : Ev M d (pc + 2) (l0 :: l1 :: l2 :: l3 :: l4 :: l5 :: l6 :: l7 :: l8 :: l9 :: some (.long x) :: lr) (.long x :: st) S L Q) : Ev M d pc (l0 :: l1 :: l2 :: l3 :: l4 :: l5 :: l6 :: l7 :: l8 :: l9 :: some (.long x) :: lr) st S L Q := ev_lload_g (i := 10) rfl (Or.inr ⟨hd, rfl⟩) kk
theorem ev_ist10 {x : Int32} (hd : decode M.2.1 pc = .ok (.istore 10, 2)) (kk : Ev M d (pc + 2) (l0 :: l1 :: l2 :: l3 :: l4 :: l5 :: l6 :: l7 :: l8 :: l9 :: some (.int x) :: lr) st S L Q) (hi : 10 < M.2.2.1 := by decide) (hn : gx_nl (l0 :: l1 :: l2 :: l3 :: l4 :: l5 :: l6 :: l7 :: l8 :: l9 :: l10 :: lr) 10 = true := by rfl) : Ev M d pc (l0 :: l1 :: l2 :: l3 :: l4 :: l5 :: l6 :: l7 :: l8 :: l9 :: l10 :: lr) (.int x :: st) S L Q := ev_store_g (i := 10) hi hn (Or.inr ⟨hd, rfl⟩) kk
theorem ev_lst10 {x : Int64} (hd : decode M.2.1 pc = .ok (.lstore 10, 2)) (kk : Ev M d (pc + 2) (l0 :: l1 :: l2 :: l3 :: l4 :: l5 :: l6 :: l7 :: l8 :: l9 :: some (.long x) :: none :: lr) st S L Q) (hi : 10 + 1 < M.2.2.1 := by decide) (hn : gx_nl (l0 :: l1 :: l2 :: l3 :: l4 :: l5 :: l6 :: l7 :: l8 :: l9 :: l10 :: l11 :: lr) 10 = true := by rfl) : Ev M d pc (l0 :: l1 :: l2 :: l3 :: l4 :: l5 :: l6 :: l7 :: l8 :: l9 :: l10 :: l11 :: lr) (.long x :: st) S L Q := ev_lstore_g (i := 10) hi hn (Or.inr ⟨hd, rfl⟩) kk
theorem ev_inc10 {n : Int} {x v : Int32} (hd : decode M.2.1 pc = .ok (.iinc 10 n, 3)) (hv : x + Int32.ofInt n = v) (kk : Ev M d (pc + 3) (l0 :: l1 :: l2 :: l3 :: l4 :: l5 :: l6 :: l7 :: l8 :: l9 :: some (.int v) :: lr) st S L Q) (hi : 10 < M.2.2.1 := by decide) (hn : gx_nl (l0 :: l1 :: l2 :: l3 :: l4 :: l5 :: l6 :: l7 :: l8 :: l9 :: some (.int x) :: lr) 10 = true := by rfl) : Ev M d pc (l0 :: l1 :: l2 :: l3 :: l4 :: l5 :: l6 :: l7 :: l8 :: l9 :: some (.int x) :: lr) st S L Q := ev_iinc_g (i := 10) rfl hi hn hd hv kk
theorem ev_ald11 {x : Nat} (hd : decode M.2.1 pc = .ok (.aload 11, 2)) (kk : Ev M d (pc + 2) (l0 :: l1 :: l2 :: l3 :: l4 :: l5 :: l6 :: l7 :: l8 :: l9 :: l10 :: some (.ref x) :: lr) (.ref x :: st) S L Q) : Ev M d pc (l0 :: l1 :: l2 :: l3 :: l4 :: l5 :: l6 :: l7 :: l8 :: l9 :: l10 :: some (.ref x) :: lr) st S L Q := ev_aload_g (i := 11) rfl (Or.inr ⟨hd, rfl⟩) kk
theorem ev_ild11 {x : Int32} (hd : decode M.2.1 pc = .ok (.iload 11, 2)) (kk : Ev M d (pc + 2) (l0 :: l1 :: l2 :: l3 :: l4 :: l5 :: l6 :: l7 :: l8 :: l9 :: l10 :: some (.int x) :: lr) (.int x :: st) S L Q) : Ev M d pc (l0 :: l1 :: l2 :: l3 :: l4 :: l5 :: l6 :: l7 :: l8 :: l9 :: l10 :: some (.int x) :: lr) st S L Q := ev_iload_g (i := 11) rfl (Or.inr ⟨hd, rfl⟩) kk
theorem ev_lld11 {x : Int64} (hd : decode M.2.1 pc = .ok (.lload 11, 2)) (kk : Ev M d (pc + 2) (l0 :: l1 :: l2 :: l3 :: l4 :: l5 :: l6 :: l7 :: l8 :: l9 :: l10 :: some (.long x) :: lr) (.long x :: st) S L Q) : Ev M d pc (l0 :: l1 :: l2 :: l3 :: l4 :: l5 :: l6 :: l7 :: l8 :: l9 :: l10 :: some (.long x) :: lr) st S L Q := ev_lload_g (i := 11) rfl (Or.inr ⟨hd, rfl⟩) kk
theorem ev_ist11 {x : Int32} (hd : decode M.2.1 pc = .ok (.istore 11, 2)) (kk : Ev M d (pc + 2) (l0 :: l1 :: l2 :: l3 :: l4 :: l5 :: l6 :: l7 :: l8 :: l9 :: l10 :: some (.int x) :: lr) st S L Q) (hi : 11 < M.2.2.1 := by decide) (hn : gx_nl (l0 :: l1 :: l2 :: l3 :: l4 :: l5 :: l6 :: l7 :: l8 :: l9 :: l10 :: l11 :: lr) 11 = true := by rfl) : Ev M d pc (l0 :: l1 :: l2 :: l3 :: l4 :: l5 :: l6 :: l7 :: l8 :: l9 :: l10 :: l11 :: lr) (.int x :: st) S L Q := ev_store_g (i := 11) hi hn (Or.inr ⟨hd, rfl⟩) kk
theorem ev_inc11 {n : Int} {x v : Int32} (hd : decode M.2.1 pc = .ok (.iinc 11 n, 3)) (hv : x + Int32.ofInt n = v) (kk : Ev M d (pc + 3) (l0 :: l1 :: l2 :: l3 :: l4 :: l5 :: l6 :: l7 :: l8 :: l9 :: l10 :: some (.int v) :: lr) st S L Q) (hi : 11 < M.2.2.1 := by decide) (hn : gx_nl (l0 :: l1 :: l2 :: l3 :: l4 :: l5 :: l6 :: l7 :: l8 :: l9 :: l10 :: some (.int x) :: lr) 11 = true := by rfl) : Ev M d pc (l0 :: l1 :: l2 :: l3 :: l4 :: l5 :: l6 :: l7 :: l8 :: l9 :: l10 :: some (.int x) :: lr) st S L Q := ev_iinc_g (i := 11) rfl hi hn hd hv kk
theorem ev_iconst {n : Int} {v : Int32} (hd : decode M.2.1 pc = .ok (.iconst n, 1)) (hv : Int32.ofInt n = v) (kk : Ev M d (pc + 1) loc (.int v :: st) S L Q) : Ev M d pc loc (st) S L Q := by
  intro p l e R s m args below meth c ad cT D A C H locs ls hP hD hS hl'
  exact lv_iconst C.1 C.2.1 hd hv (kk p l e R s m args below meth c ad cT D A C H locs ls hP hD hS hl')
theorem ev_bipush {n : Int} {v : Int32} (hd : decode M.2.1 pc = .ok (.bipush n, 2)) (hv : (Int8.ofInt n).toInt32 = v) (kk : Ev M d (pc + 2) loc (.int v :: st) S L Q) : Ev M d pc loc (st) S L Q := by
  intro p l e R s m args below meth c ad cT D A C H locs ls hP hD hS hl'
  exact lv_bipush C.1 C.2.1 hd hv (kk p l e R s m args below meth c ad cT D A C H locs ls hP hD hS hl')
theorem ev_sipush {n : Int} {v : Int32} (hd : decode M.2.1 pc = .ok (.sipush n, 3)) (hv : (Int16.ofInt n).toInt32 = v) (kk : Ev M d (pc + 3) loc (.int v :: st) S L Q) : Ev M d pc loc (st) S L Q := by
  intro p l e R s m args below meth c ad cT D A C H locs ls hP hD hS hl'
  exact lv_sipush C.1 C.2.1 hd hv (kk p l e R s m args below meth c ad cT D A C H locs ls hP hD hS hl')
theorem ev_lconst {n : Fin 2} {v : Int64} (hd : decode M.2.1 pc = .ok (.lconst n, 1)) (hv : Int64.ofNat (n : Nat) = v) (kk : Ev M d (pc + 1) loc (.long v :: st) S L Q) : Ev M d pc loc (st) S L Q := by
  intro p l e R s m args below meth c ad cT D A C H locs ls hP hD hS hl'
  exact lv_lconst C.1 C.2.1 hd hv (kk p l e R s m args below meth c ad cT D A C H locs ls hP hD hS hl')
theorem ev_iadd {x y : Int32} (hd : decode M.2.1 pc = .ok (.iadd, 1))  (kk : Ev M d (pc + 1) loc (.int (x + y) :: st) S L Q) : Ev M d pc loc (.int y :: .int x :: st) S L Q := by
  intro p l e R s m args below meth c ad cT D A C H locs ls hP hD hS hl'
  exact lv_iadd C.1 C.2.1 hd  (kk p l e R s m args below meth c ad cT D A C H locs ls hP hD hS hl')
theorem ev_isub {x y : Int32} (hd : decode M.2.1 pc = .ok (.isub, 1))  (kk : Ev M d (pc + 1) loc (.int (x - y) :: st) S L Q) : Ev M d pc loc (.int y :: .int x :: st) S L Q := by
  intro p l e R s m args below meth c ad cT D A C H locs ls hP hD hS hl'
  exact lv_isub C.1 C.2.1 hd  (kk p l e R s m args below meth c ad cT D A C H locs ls hP hD hS hl')
theorem ev_imul {x y : Int32} (hd : decode M.2.1 pc = .ok (.imul, 1))  (kk : Ev M d (pc + 1) loc (.int (x * y) :: st) S L Q) : Ev M d pc loc (.int y :: .int x :: st) S L Q := by
  intro p l e R s m args below meth c ad cT D A C H locs ls hP hD hS hl'
  exact lv_imul C.1 C.2.1 hd  (kk p l e R s m args below meth c ad cT D A C H locs ls hP hD hS hl')
theorem ev_iand {x y : Int32} (hd : decode M.2.1 pc = .ok (.iand, 1))  (kk : Ev M d (pc + 1) loc (.int (x &&& y) :: st) S L Q) : Ev M d pc loc (.int y :: .int x :: st) S L Q := by
  intro p l e R s m args below meth c ad cT D A C H locs ls hP hD hS hl'
  exact lv_iand C.1 C.2.1 hd  (kk p l e R s m args below meth c ad cT D A C H locs ls hP hD hS hl')
theorem ev_ior {x y : Int32} (hd : decode M.2.1 pc = .ok (.ior, 1))  (kk : Ev M d (pc + 1) loc (.int (x ||| y) :: st) S L Q) : Ev M d pc loc (.int y :: .int x :: st) S L Q := by
  intro p l e R s m args below meth c ad cT D A C H locs ls hP hD hS hl'
  exact lv_ior C.1 C.2.1 hd  (kk p l e R s m args below meth c ad cT D A C H locs ls hP hD hS hl')
theorem ev_ixor {x y : Int32} (hd : decode M.2.1 pc = .ok (.ixor, 1))  (kk : Ev M d (pc + 1) loc (.int (x ^^^ y) :: st) S L Q) : Ev M d pc loc (.int y :: .int x :: st) S L Q := by
  intro p l e R s m args below meth c ad cT D A C H locs ls hP hD hS hl'
  exact lv_ixor C.1 C.2.1 hd  (kk p l e R s m args below meth c ad cT D A C H locs ls hP hD hS hl')
theorem ev_ishl {x y : Int32} (hd : decode M.2.1 pc = .ok (.ishl, 1))  (kk : Ev M d (pc + 1) loc (.int (x <<< (y &&& 31)) :: st) S L Q) : Ev M d pc loc (.int y :: .int x :: st) S L Q := by
  intro p l e R s m args below meth c ad cT D A C H locs ls hP hD hS hl'
  exact lv_ishl C.1 C.2.1 hd  (kk p l e R s m args below meth c ad cT D A C H locs ls hP hD hS hl')
theorem ev_ishr {x y : Int32} (hd : decode M.2.1 pc = .ok (.ishr, 1))  (kk : Ev M d (pc + 1) loc (.int (x >>> (y &&& 31)) :: st) S L Q) : Ev M d pc loc (.int y :: .int x :: st) S L Q := by
  intro p l e R s m args below meth c ad cT D A C H locs ls hP hD hS hl'
  exact lv_ishr C.1 C.2.1 hd  (kk p l e R s m args below meth c ad cT D A C H locs ls hP hD hS hl')
theorem ev_idiv {x y : Int32} (hd : decode M.2.1 pc = .ok (.idiv, 1)) (hne : ¬ y = 0) (kk : Ev M d (pc + 1) loc (.int (x / y) :: st) S L Q) : Ev M d pc loc (.int y :: .int x :: st) S L Q := by
  intro p l e R s m args below meth c ad cT D A C H locs ls hP hD hS hl'
  exact lv_idiv C.1 C.2.1 hd hne (kk p l e R s m args below meth c ad cT D A C H locs ls hP hD hS hl')
theorem ev_irem {x y : Int32} (hd : decode M.2.1 pc = .ok (.irem, 1)) (hne : ¬ y = 0) (kk : Ev M d (pc + 1) loc (.int (x - x / y * y) :: st) S L Q) : Ev M d pc loc (.int y :: .int x :: st) S L Q := by
  intro p l e R s m args below meth c ad cT D A C H locs ls hP hD hS hl'
  exact lv_irem C.1 C.2.1 hd hne (kk p l e R s m args below meth c ad cT D A C H locs ls hP hD hS hl')
theorem ev_ineg {x : Int32} (hd : decode M.2.1 pc = .ok (.ineg, 1))  (kk : Ev M d (pc + 1) loc (.int (-x) :: st) S L Q) : Ev M d pc loc (.int x :: st) S L Q := by
  intro p l e R s m args below meth c ad cT D A C H locs ls hP hD hS hl'
  exact lv_ineg C.1 C.2.1 hd  (kk p l e R s m args below meth c ad cT D A C H locs ls hP hD hS hl')
theorem ev_ladd {x y : Int64} (hd : decode M.2.1 pc = .ok (.ladd, 1))  (kk : Ev M d (pc + 1) loc (.long (x + y) :: st) S L Q) : Ev M d pc loc (.long y :: .long x :: st) S L Q := by
  intro p l e R s m args below meth c ad cT D A C H locs ls hP hD hS hl'
  exact lv_ladd C.1 C.2.1 hd  (kk p l e R s m args below meth c ad cT D A C H locs ls hP hD hS hl')
theorem ev_lsub {x y : Int64} (hd : decode M.2.1 pc = .ok (.lsub, 1))  (kk : Ev M d (pc + 1) loc (.long (x - y) :: st) S L Q) : Ev M d pc loc (.long y :: .long x :: st) S L Q := by
  intro p l e R s m args below meth c ad cT D A C H locs ls hP hD hS hl'
  exact lv_lsub C.1 C.2.1 hd  (kk p l e R s m args below meth c ad cT D A C H locs ls hP hD hS hl')
theorem ev_lmul {x y : Int64} (hd : decode M.2.1 pc = .ok (.lmul, 1))  (kk : Ev M d (pc + 1) loc (.long (x * y) :: st) S L Q) : Ev M d pc loc (.long y :: .long x :: st) S L Q := by
  intro p l e R s m args below meth c ad cT D A C H locs ls hP hD hS hl'
  exact lv_lmul C.1 C.2.1 hd  (kk p l e R s m args below meth c ad cT D A C H locs ls hP hD hS hl')
theorem ev_ldiv {x y : Int64} (hd : decode M.2.1 pc = .ok (.ldiv, 1)) (hne : ¬ y = 0) (kk : Ev M d (pc + 1) loc (.long (x / y) :: st) S L Q) : Ev M d pc loc (.long y :: .long x :: st) S L Q := by
  intro p l e R s m args below meth c ad cT D A C H locs ls hP hD hS hl'
  exact lv_ldiv C.1 C.2.1 hd hne (kk p l e R s m args below meth c ad cT D A C H locs ls hP hD hS hl')
theorem ev_lrem {x y : Int64} (hd : decode M.2.1 pc = .ok (.lrem, 1)) (hne : ¬ y = 0) (kk : Ev M d (pc + 1) loc (.long (x - x / y * y) :: st) S L Q) : Ev M d pc loc (.long y :: .long x :: st) S L Q := by
  intro p l e R s m args below meth c ad cT D A C H locs ls hP hD hS hl'
  exact lv_lrem C.1 C.2.1 hd hne (kk p l e R s m args below meth c ad cT D A C H locs ls hP hD hS hl')
theorem ev_i2l {x : Int32} (hd : decode M.2.1 pc = .ok (.i2l, 1))  (kk : Ev M d (pc + 1) loc (.long x.toInt64 :: st) S L Q) : Ev M d pc loc (.int x :: st) S L Q := by
  intro p l e R s m args below meth c ad cT D A C H locs ls hP hD hS hl'
  exact lv_i2l C.1 C.2.1 hd rfl (kk p l e R s m args below meth c ad cT D A C H locs ls hP hD hS hl')
theorem ev_l2i {x : Int64} (hd : decode M.2.1 pc = .ok (.l2i, 1))  (kk : Ev M d (pc + 1) loc (.int x.toInt32 :: st) S L Q) : Ev M d pc loc (.long x :: st) S L Q := by
  intro p l e R s m args below meth c ad cT D A C H locs ls hP hD hS hl'
  exact lv_l2i C.1 C.2.1 hd rfl (kk p l e R s m args below meth c ad cT D A C H locs ls hP hD hS hl')
theorem ev_iushr {x y : Int32} (hd : decode M.2.1 pc = .ok (.iushr, 1))  (kk : Ev M d (pc + 1) loc (.int (x.toUInt32 >>> (y.toUInt32 &&& Int32.toUInt32 31)).toInt32 :: st) S L Q) : Ev M d pc loc (.int y :: .int x :: st) S L Q := by
  intro p l e R s m args below meth c ad cT D A C H locs ls hP hD hS hl'
  exact lv_iushr C.1 C.2.1 hd rfl (kk p l e R s m args below meth c ad cT D A C H locs ls hP hD hS hl')
theorem ev_lushr {x : Int64} {y : Int32} (hd : decode M.2.1 pc = .ok (.lushr, 1))  (kk : Ev M d (pc + 1) loc (.long (x.toUInt64 >>> (y.toInt64.toUInt64 &&& Int64.toUInt64 63)).toInt64 :: st) S L Q) : Ev M d pc loc (.int y :: .long x :: st) S L Q := by
  intro p l e R s m args below meth c ad cT D A C H locs ls hP hD hS hl'
  exact lv_lushr C.1 C.2.1 hd rfl (kk p l e R s m args below meth c ad cT D A C H locs ls hP hD hS hl')
theorem ev_lcmp {x y : Int64} (hd : decode M.2.1 pc = .ok (.lcmp, 1))  (kk : Ev M d (pc + 1) loc (.int (lg_cmp x y) :: st) S L Q) : Ev M d pc loc (.long y :: .long x :: st) S L Q := by
  intro p l e R s m args below meth c ad cT D A C H locs ls hP hD hS hl'
  exact W.lcmp C.1 C.2.1 hd  (kk p l e R s m args below meth c ad cT D A C H locs ls hP hD hS hl')
theorem ev_dupi {x : Int32} (hd : decode M.2.1 pc = .ok (.dup, 1))  (kk : Ev M d (pc + 1) loc (.int x :: .int x :: st) S L Q) : Ev M d pc loc (.int x :: st) S L Q := by
  intro p l e R s m args below meth c ad cT D A C H locs ls hP hD hS hl'
  exact lv_dup C.1 C.2.1 hd rfl (kk p l e R s m args below meth c ad cT D A C H locs ls hP hD hS hl')
theorem ev_dupr {x : Nat} (hd : decode M.2.1 pc = .ok (.dup, 1))  (kk : Ev M d (pc + 1) loc (.ref x :: .ref x :: st) S L Q) : Ev M d pc loc (.ref x :: st) S L Q := by
  intro p l e R s m args below meth c ad cT D A C H locs ls hP hD hS hl'
  exact lv_dup C.1 C.2.1 hd rfl (kk p l e R s m args below meth c ad cT D A C H locs ls hP hD hS hl')
theorem ev_popi {x : Int32} (hd : decode M.2.1 pc = .ok (.pop, 1))  (kk : Ev M d (pc + 1) loc (st) S L Q) : Ev M d pc loc (.int x :: st) S L Q := by
  intro p l e R s m args below meth c ad cT D A C H locs ls hP hD hS hl'
  exact lv_pop C.1 C.2.1 hd rfl (kk p l e R s m args below meth c ad cT D A C H locs ls hP hD hS hl')
theorem ev_dup2 {x : Int32} {o : Nat} (hd : decode M.2.1 pc = .ok (.dup2, 1))  (kk : Ev M d (pc + 1) loc (.int x :: .ref o :: .int x :: .ref o :: st) S L Q) : Ev M d pc loc (.int x :: .ref o :: st) S L Q := by
  intro p l e R s m args below meth c ad cT D A C H locs ls hP hD hS hl'
  exact lv_dup2_11 C.1 C.2.1 hd rfl rfl (kk p l e R s m args below meth c ad cT D A C H locs ls hP hD hS hl')
theorem ev_ldc {idx : Nat} {v : Int32} (hd : decode M.2.1 pc = .ok (.ldc idx, 2)) (hc : Cond.constant M.1.cls idx v ∈ gw_tbl) (kk : Ev M d (pc + 2) loc (.int v :: st) S L Q) : Ev M d pc loc st S L Q := by
  intro p l e R s m args below meth c ad cT D A C H locs ls hP hD hS hl'
  exact lv_ldc C.1 C.2.1 C.2.2.2.2.1 (C.2.2.2.2.2.1 _ hc) hd (kk p l e R s m args below meth c ad cT D A C H locs ls hP hD hS hl')
theorem ev_ldcw {idx : Nat} {v : Int32} (hd : decode M.2.1 pc = .ok (.ldc_w idx, 3)) (hc : Cond.constant M.1.cls idx v ∈ gw_tbl) (kk : Ev M d (pc + 3) loc (.int v :: st) S L Q) : Ev M d pc loc st S L Q := by
  intro p l e R s m args below meth c ad cT D A C H locs ls hP hD hS hl'
  exact lv_ldcw C.1 C.2.1 C.2.2.2.2.1 (C.2.2.2.2.2.1 _ hc) hd (kk p l e R s m args below meth c ad cT D A C H locs ls hP hD hS hl')
theorem ev_ldc2 {idx : Nat} {v : Int64} (hd : decode M.2.1 pc = .ok (.ldc2_w idx, 3)) (hc : Cond.constantLong M.1.cls idx v ∈ gw_tbl) (kk : Ev M d (pc + 3) loc (.long v :: st) S L Q) : Ev M d pc loc st S L Q := by
  intro p l e R s m args below meth c ad cT D A C H locs ls hP hD hS hl'
  exact lv_ldc2 C.1 C.2.1 C.2.2.2.2.1 (C.2.2.2.2.2.1 _ hc) hd (kk p l e R s m args below meth c ad cT D A C H locs ls hP hD hS hl')
theorem ev_if_eq {x : Int32} {off : Int} (tgt : Nat) (hd : decode M.2.1 pc = .ok (.ifCond .eq off, 3)) (ht : (pc : Int) + off = (tgt : Int)) (kt : x = 0 → Ev M d tgt loc st S L Q) (kf : ¬ (x = 0) → Ev M d (pc + 3) loc st S L Q) : Ev M d pc loc (.int x :: st) S L Q := by
  intro p l e R s m args below meth c ad cT D A C H locs ls hP hD hS hl'
  exact lv_if_eq C.1 C.2.1 hd ht (fun h9 => kt h9 p l e R s m args below meth c ad cT D A C H locs ls hP hD hS hl') (fun h9 => kf h9 p l e R s m args below meth c ad cT D A C H locs ls hP hD hS hl')
theorem ev_if_eq_t {x : Int32} {off : Int} (tgt : Nat) (hd : decode M.2.1 pc = .ok (.ifCond .eq off, 3)) (ht : (pc : Int) + off = (tgt : Int)) (hc : x = 0) (kt : Ev M d tgt loc st S L Q) : Ev M d pc loc (.int x :: st) S L Q := ev_if_eq tgt hd ht (fun _ => kt) (fun h => absurd hc h)
theorem ev_if_eq_f {x : Int32} {off : Int} (tgt : Nat) (hd : decode M.2.1 pc = .ok (.ifCond .eq off, 3)) (ht : (pc : Int) + off = (tgt : Int)) (hc : ¬ (x = 0)) (kf : Ev M d (pc + 3) loc st S L Q) : Ev M d pc loc (.int x :: st) S L Q := ev_if_eq tgt hd ht (fun h => absurd h hc) (fun _ => kf)
theorem ev_icmp_eq {x y : Int32} {off : Int} (tgt : Nat) (hd : decode M.2.1 pc = .ok (.if_icmp .eq off, 3)) (ht : (pc : Int) + off = (tgt : Int)) (kt : x = y → Ev M d tgt loc st S L Q) (kf : ¬ (x = y) → Ev M d (pc + 3) loc st S L Q) : Ev M d pc loc (.int y :: .int x :: st) S L Q := by
  intro p l e R s m args below meth c ad cT D A C H locs ls hP hD hS hl'
  exact lv_icmp_eq C.1 C.2.1 hd ht (fun h9 => kt h9 p l e R s m args below meth c ad cT D A C H locs ls hP hD hS hl') (fun h9 => kf h9 p l e R s m args below meth c ad cT D A C H locs ls hP hD hS hl')
theorem ev_icmp_eq_t {x y : Int32} {off : Int} (tgt : Nat) (hd : decode M.2.1 pc = .ok (.if_icmp .eq off, 3)) (ht : (pc : Int) + off = (tgt : Int)) (hc : x = y) (kt : Ev M d tgt loc st S L Q) : Ev M d pc loc (.int y :: .int x :: st) S L Q := ev_icmp_eq tgt hd ht (fun _ => kt) (fun h => absurd hc h)
theorem ev_icmp_eq_f {x y : Int32} {off : Int} (tgt : Nat) (hd : decode M.2.1 pc = .ok (.if_icmp .eq off, 3)) (ht : (pc : Int) + off = (tgt : Int)) (hc : ¬ (x = y)) (kf : Ev M d (pc + 3) loc st S L Q) : Ev M d pc loc (.int y :: .int x :: st) S L Q := ev_icmp_eq tgt hd ht (fun h => absurd h hc) (fun _ => kf)
theorem ev_if_ne {x : Int32} {off : Int} (tgt : Nat) (hd : decode M.2.1 pc = .ok (.ifCond .ne off, 3)) (ht : (pc : Int) + off = (tgt : Int)) (kt : ¬ x = 0 → Ev M d tgt loc st S L Q) (kf : x = 0 → Ev M d (pc + 3) loc st S L Q) : Ev M d pc loc (.int x :: st) S L Q := by
  intro p l e R s m args below meth c ad cT D A C H locs ls hP hD hS hl'
  exact lv_if_ne C.1 C.2.1 hd ht (fun h9 => kt h9 p l e R s m args below meth c ad cT D A C H locs ls hP hD hS hl') (fun h9 => kf h9 p l e R s m args below meth c ad cT D A C H locs ls hP hD hS hl')
theorem ev_if_ne_t {x : Int32} {off : Int} (tgt : Nat) (hd : decode M.2.1 pc = .ok (.ifCond .ne off, 3)) (ht : (pc : Int) + off = (tgt : Int)) (hc : ¬ x = 0) (kt : Ev M d tgt loc st S L Q) : Ev M d pc loc (.int x :: st) S L Q := ev_if_ne tgt hd ht (fun _ => kt) (fun h => absurd h hc)
theorem ev_if_ne_f {x : Int32} {off : Int} (tgt : Nat) (hd : decode M.2.1 pc = .ok (.ifCond .ne off, 3)) (ht : (pc : Int) + off = (tgt : Int)) (hc : x = 0) (kf : Ev M d (pc + 3) loc st S L Q) : Ev M d pc loc (.int x :: st) S L Q := ev_if_ne tgt hd ht (fun h => absurd hc h) (fun _ => kf)
theorem ev_icmp_ne {x y : Int32} {off : Int} (tgt : Nat) (hd : decode M.2.1 pc = .ok (.if_icmp .ne off, 3)) (ht : (pc : Int) + off = (tgt : Int)) (kt : ¬ x = y → Ev M d tgt loc st S L Q) (kf : x = y → Ev M d (pc + 3) loc st S L Q) : Ev M d pc loc (.int y :: .int x :: st) S L Q := by
  intro p l e R s m args below meth c ad cT D A C H locs ls hP hD hS hl'
  exact lv_icmp_ne C.1 C.2.1 hd ht (fun h9 => kt h9 p l e R s m args below meth c ad cT D A C H locs ls hP hD hS hl') (fun h9 => kf h9 p l e R s m args below meth c ad cT D A C H locs ls hP hD hS hl')
theorem ev_icmp_ne_t {x y : Int32} {off : Int} (tgt : Nat) (hd : decode M.2.1 pc = .ok (.if_icmp .ne off, 3)) (ht : (pc : Int) + off = (tgt : Int)) (hc : ¬ x = y) (kt : Ev M d tgt loc st S L Q) : Ev M d pc loc (.int y :: .int x :: st) S L Q := ev_icmp_ne tgt hd ht (fun _ => kt) (fun h => absurd h hc)
theorem ev_icmp_ne_f {x y : Int32} {off : Int} (tgt : Nat) (hd : decode M.2.1 pc = .ok (.if_icmp .ne off, 3)) (ht : (pc : Int) + off = (tgt : Int)) (hc : x = y) (kf : Ev M d (pc + 3) loc st S L Q) : Ev M d pc loc (.int y :: .int x :: st) S L Q := ev_icmp_ne tgt hd ht (fun h => absurd hc h) (fun _ => kf)
theorem ev_if_lt {x : Int32} {off : Int} (tgt : Nat) (hd : decode M.2.1 pc = .ok (.ifCond .lt off, 3)) (ht : (pc : Int) + off = (tgt : Int)) (kt : x < 0 → Ev M d tgt loc st S L Q) (kf : ¬ (x < 0) → Ev M d (pc + 3) loc st S L Q) : Ev M d pc loc (.int x :: st) S L Q := by
  intro p l e R s m args below meth c ad cT D A C H locs ls hP hD hS hl'
  exact lv_if_lt C.1 C.2.1 hd ht (fun h9 => kt h9 p l e R s m args below meth c ad cT D A C H locs ls hP hD hS hl') (fun h9 => kf h9 p l e R s m args below meth c ad cT D A C H locs ls hP hD hS hl')
theorem ev_if_lt_t {x : Int32} {off : Int} (tgt : Nat) (hd : decode M.2.1 pc = .ok (.ifCond .lt off, 3)) (ht : (pc : Int) + off = (tgt : Int)) (hc : x < 0) (kt : Ev M d tgt loc st S L Q) : Ev M d pc loc (.int x :: st) S L Q := ev_if_lt tgt hd ht (fun _ => kt) (fun h => absurd hc h)
theorem ev_if_lt_f {x : Int32} {off : Int} (tgt : Nat) (hd : decode M.2.1 pc = .ok (.ifCond .lt off, 3)) (ht : (pc : Int) + off = (tgt : Int)) (hc : ¬ (x < 0)) (kf : Ev M d (pc + 3) loc st S L Q) : Ev M d pc loc (.int x :: st) S L Q := ev_if_lt tgt hd ht (fun h => absurd h hc) (fun _ => kf)
theorem ev_icmp_lt {x y : Int32} {off : Int} (tgt : Nat) (hd : decode M.2.1 pc = .ok (.if_icmp .lt off, 3)) (ht : (pc : Int) + off = (tgt : Int)) (kt : x < y → Ev M d tgt loc st S L Q) (kf : ¬ (x < y) → Ev M d (pc + 3) loc st S L Q) : Ev M d pc loc (.int y :: .int x :: st) S L Q := by
  intro p l e R s m args below meth c ad cT D A C H locs ls hP hD hS hl'
  exact lv_icmp_lt C.1 C.2.1 hd ht (fun h9 => kt h9 p l e R s m args below meth c ad cT D A C H locs ls hP hD hS hl') (fun h9 => kf h9 p l e R s m args below meth c ad cT D A C H locs ls hP hD hS hl')
theorem ev_icmp_lt_t {x y : Int32} {off : Int} (tgt : Nat) (hd : decode M.2.1 pc = .ok (.if_icmp .lt off, 3)) (ht : (pc : Int) + off = (tgt : Int)) (hc : x < y) (kt : Ev M d tgt loc st S L Q) : Ev M d pc loc (.int y :: .int x :: st) S L Q := ev_icmp_lt tgt hd ht (fun _ => kt) (fun h => absurd hc h)
theorem ev_icmp_lt_f {x y : Int32} {off : Int} (tgt : Nat) (hd : decode M.2.1 pc = .ok (.if_icmp .lt off, 3)) (ht : (pc : Int) + off = (tgt : Int)) (hc : ¬ (x < y)) (kf : Ev M d (pc + 3) loc st S L Q) : Ev M d pc loc (.int y :: .int x :: st) S L Q := ev_icmp_lt tgt hd ht (fun h => absurd h hc) (fun _ => kf)
theorem ev_if_ge {x : Int32} {off : Int} (tgt : Nat) (hd : decode M.2.1 pc = .ok (.ifCond .ge off, 3)) (ht : (pc : Int) + off = (tgt : Int)) (kt : 0 ≤ x → Ev M d tgt loc st S L Q) (kf : ¬ (0 ≤ x) → Ev M d (pc + 3) loc st S L Q) : Ev M d pc loc (.int x :: st) S L Q := by
  intro p l e R s m args below meth c ad cT D A C H locs ls hP hD hS hl'
  exact lv_if_ge C.1 C.2.1 hd ht (fun h9 => kt h9 p l e R s m args below meth c ad cT D A C H locs ls hP hD hS hl') (fun h9 => kf h9 p l e R s m args below meth c ad cT D A C H locs ls hP hD hS hl')
theorem ev_if_ge_t {x : Int32} {off : Int} (tgt : Nat) (hd : decode M.2.1 pc = .ok (.ifCond .ge off, 3)) (ht : (pc : Int) + off = (tgt : Int)) (hc : 0 ≤ x) (kt : Ev M d tgt loc st S L Q) : Ev M d pc loc (.int x :: st) S L Q := ev_if_ge tgt hd ht (fun _ => kt) (fun h => absurd hc h)
theorem ev_if_ge_f {x : Int32} {off : Int} (tgt : Nat) (hd : decode M.2.1 pc = .ok (.ifCond .ge off, 3)) (ht : (pc : Int) + off = (tgt : Int)) (hc : ¬ (0 ≤ x)) (kf : Ev M d (pc + 3) loc st S L Q) : Ev M d pc loc (.int x :: st) S L Q := ev_if_ge tgt hd ht (fun h => absurd h hc) (fun _ => kf)
theorem ev_icmp_ge {x y : Int32} {off : Int} (tgt : Nat) (hd : decode M.2.1 pc = .ok (.if_icmp .ge off, 3)) (ht : (pc : Int) + off = (tgt : Int)) (kt : y ≤ x → Ev M d tgt loc st S L Q) (kf : ¬ (y ≤ x) → Ev M d (pc + 3) loc st S L Q) : Ev M d pc loc (.int y :: .int x :: st) S L Q := by
  intro p l e R s m args below meth c ad cT D A C H locs ls hP hD hS hl'
  exact lv_icmp_ge C.1 C.2.1 hd ht (fun h9 => kt h9 p l e R s m args below meth c ad cT D A C H locs ls hP hD hS hl') (fun h9 => kf h9 p l e R s m args below meth c ad cT D A C H locs ls hP hD hS hl')
theorem ev_icmp_ge_t {x y : Int32} {off : Int} (tgt : Nat) (hd : decode M.2.1 pc = .ok (.if_icmp .ge off, 3)) (ht : (pc : Int) + off = (tgt : Int)) (hc : y ≤ x) (kt : Ev M d tgt loc st S L Q) : Ev M d pc loc (.int y :: .int x :: st) S L Q := ev_icmp_ge tgt hd ht (fun _ => kt) (fun h => absurd hc h)
theorem ev_icmp_ge_f {x y : Int32} {off : Int} (tgt : Nat) (hd : decode M.2.1 pc = .ok (.if_icmp .ge off, 3)) (ht : (pc : Int) + off = (tgt : Int)) (hc : ¬ (y ≤ x)) (kf : Ev M d (pc + 3) loc st S L Q) : Ev M d pc loc (.int y :: .int x :: st) S L Q := ev_icmp_ge tgt hd ht (fun h => absurd h hc) (fun _ => kf)
theorem ev_if_gt {x : Int32} {off : Int} (tgt : Nat) (hd : decode M.2.1 pc = .ok (.ifCond .gt off, 3)) (ht : (pc : Int) + off = (tgt : Int)) (kt : 0 < x → Ev M d tgt loc st S L Q) (kf : ¬ (0 < x) → Ev M d (pc + 3) loc st S L Q) : Ev M d pc loc (.int x :: st) S L Q := by
  intro p l e R s m args below meth c ad cT D A C H locs ls hP hD hS hl'
  exact lv_if_gt C.1 C.2.1 hd ht (fun h9 => kt h9 p l e R s m args below meth c ad cT D A C H locs ls hP hD hS hl') (fun h9 => kf h9 p l e R s m args below meth c ad cT D A C H locs ls hP hD hS hl')
theorem ev_if_gt_t {x : Int32} {off : Int} (tgt : Nat) (hd : decode M.2.1 pc = .ok (.ifCond .gt off, 3)) (ht : (pc : Int) + off = (tgt : Int)) (hc : 0 < x) (kt : Ev M d tgt loc st S L Q) : Ev M d pc loc (.int x :: st) S L Q := ev_if_gt tgt hd ht (fun _ => kt) (fun h => absurd hc h)
theorem ev_if_gt_f {x : Int32} {off : Int} (tgt : Nat) (hd : decode M.2.1 pc = .ok (.ifCond .gt off, 3)) (ht : (pc : Int) + off = (tgt : Int)) (hc : ¬ (0 < x)) (kf : Ev M d (pc + 3) loc st S L Q) : Ev M d pc loc (.int x :: st) S L Q := ev_if_gt tgt hd ht (fun h => absurd h hc) (fun _ => kf)
theorem ev_icmp_gt {x y : Int32} {off : Int} (tgt : Nat) (hd : decode M.2.1 pc = .ok (.if_icmp .gt off, 3)) (ht : (pc : Int) + off = (tgt : Int)) (kt : y < x → Ev M d tgt loc st S L Q) (kf : ¬ (y < x) → Ev M d (pc + 3) loc st S L Q) : Ev M d pc loc (.int y :: .int x :: st) S L Q := by
  intro p l e R s m args below meth c ad cT D A C H locs ls hP hD hS hl'
  exact lv_icmp_gt C.1 C.2.1 hd ht (fun h9 => kt h9 p l e R s m args below meth c ad cT D A C H locs ls hP hD hS hl') (fun h9 => kf h9 p l e R s m args below meth c ad cT D A C H locs ls hP hD hS hl')
theorem ev_icmp_gt_t {x y : Int32} {off : Int} (tgt : Nat) (hd : decode M.2.1 pc = .ok (.if_icmp .gt off, 3)) (ht : (pc : Int) + off = (tgt : Int)) (hc : y < x) (kt : Ev M d tgt loc st S L Q) : Ev M d pc loc (.int y :: .int x :: st) S L Q := ev_icmp_gt tgt hd ht (fun _ => kt) (fun h => absurd hc h)
theorem ev_icmp_gt_f {x y : Int32} {off : Int} (tgt : Nat) (hd : decode M.2.1 pc = .ok (.if_icmp .gt off, 3)) (ht : (pc : Int) + off = (tgt : Int)) (hc : ¬ (y < x)) (kf : Ev M d (pc + 3) loc st S L Q) : Ev M d pc loc (.int y :: .int x :: st) S L Q := ev_icmp_gt tgt hd ht (fun h => absurd h hc) (fun _ => kf)
theorem ev_if_le {x : Int32} {off : Int} (tgt : Nat) (hd : decode M.2.1 pc = .ok (.ifCond .le off, 3)) (ht : (pc : Int) + off = (tgt : Int)) (kt : x ≤ 0 → Ev M d tgt loc st S L Q) (kf : ¬ (x ≤ 0) → Ev M d (pc + 3) loc st S L Q) : Ev M d pc loc (.int x :: st) S L Q := by
  intro p l e R s m args below meth c ad cT D A C H locs ls hP hD hS hl'
  exact lv_if_le C.1 C.2.1 hd ht (fun h9 => kt h9 p l e R s m args below meth c ad cT D A C H locs ls hP hD hS hl') (fun h9 => kf h9 p l e R s m args below meth c ad cT D A C H locs ls hP hD hS hl')
theorem ev_if_le_t {x : Int32} {off : Int} (tgt : Nat) (hd : decode M.2.1 pc = .ok (.ifCond .le off, 3)) (ht : (pc : Int) + off = (tgt : Int)) (hc : x ≤ 0) (kt : Ev M d tgt loc st S L Q) : Ev M d pc loc (.int x :: st) S L Q := ev_if_le tgt hd ht (fun _ => kt) (fun h => absurd hc h)
theorem ev_if_le_f {x : Int32} {off : Int} (tgt : Nat) (hd : decode M.2.1 pc = .ok (.ifCond .le off, 3)) (ht : (pc : Int) + off = (tgt : Int)) (hc : ¬ (x ≤ 0)) (kf : Ev M d (pc + 3) loc st S L Q) : Ev M d pc loc (.int x :: st) S L Q := ev_if_le tgt hd ht (fun h => absurd h hc) (fun _ => kf)
theorem ev_icmp_le {x y : Int32} {off : Int} (tgt : Nat) (hd : decode M.2.1 pc = .ok (.if_icmp .le off, 3)) (ht : (pc : Int) + off = (tgt : Int)) (kt : x ≤ y → Ev M d tgt loc st S L Q) (kf : ¬ (x ≤ y) → Ev M d (pc + 3) loc st S L Q) : Ev M d pc loc (.int y :: .int x :: st) S L Q := by
  intro p l e R s m args below meth c ad cT D A C H locs ls hP hD hS hl'
  exact lv_icmp_le C.1 C.2.1 hd ht (fun h9 => kt h9 p l e R s m args below meth c ad cT D A C H locs ls hP hD hS hl') (fun h9 => kf h9 p l e R s m args below meth c ad cT D A C H locs ls hP hD hS hl')
theorem ev_icmp_le_t {x y : Int32} {off : Int} (tgt : Nat) (hd : decode M.2.1 pc = .ok (.if_icmp .le off, 3)) (ht : (pc : Int) + off = (tgt : Int)) (hc : x ≤ y) (kt : Ev M d tgt loc st S L Q) : Ev M d pc loc (.int y :: .int x :: st) S L Q := ev_icmp_le tgt hd ht (fun _ => kt) (fun h => absurd hc h)
theorem ev_icmp_le_f {x y : Int32} {off : Int} (tgt : Nat) (hd : decode M.2.1 pc = .ok (.if_icmp .le off, 3)) (ht : (pc : Int) + off = (tgt : Int)) (hc : ¬ (x ≤ y)) (kf : Ev M d (pc + 3) loc st S L Q) : Ev M d pc loc (.int y :: .int x :: st) S L Q := ev_icmp_le tgt hd ht (fun h => absurd h hc) (fun _ => kf)
theorem ev_goto {off : Int} (tgt : Nat) (hd : decode M.2.1 pc = .ok (.goto off, 3)) (ht : (pc : Int) + off = (tgt : Int)) (kk : Ev M d tgt loc st S L Q) : Ev M d pc loc st S L Q := by
  intro p l e R s m args below meth c ad cT D A C H locs ls hP hD hS hl'
  exact lv_goto C.1 C.2.1 hd ht (kk p l e R s m args below meth c ad cT D A C H locs ls hP hD hS hl')
theorem ev_tsw_in {dflt lo hi : Int} {offs : Array Int} {len : Nat} {x : Int32} {off : Int} (tgt : Nat) (hd : decode M.2.1 pc = .ok (.tableswitch dflt lo hi offs, len)) (h1 : ¬ x.toInt < lo) (h2 : ¬ hi < x.toInt) (ho : offs[(x.toInt - lo).toNat]? = some off) (ht : (pc : Int) + off = (tgt : Int)) (kk : Ev M d tgt loc st S L Q) : Ev M d pc loc (.int x :: st) S L Q := by
  intro p l e R s m args below meth c ad cT D A C H locs ls hP hD hS hl'
  exact lv_tableIn C.1 C.2.1 hd h1 h2 ho ht (kk p l e R s m args below meth c ad cT D A C H locs ls hP hD hS hl')
theorem ev_tsw_out {dflt lo hi : Int} {offs : Array Int} {len : Nat} {x : Int32} (tgt : Nat) (hd : decode M.2.1 pc = .ok (.tableswitch dflt lo hi offs, len)) (h : x.toInt < lo ∨ hi < x.toInt) (ht : (pc : Int) + dflt = (tgt : Int)) (kk : Ev M d tgt loc st S L Q) : Ev M d pc loc (.int x :: st) S L Q := by
  intro p l e R s m args below meth c ad cT D A C H locs ls hP hD hS hl'
  exact lv_tableOut C.1 C.2.1 hd h ht (kk p l e R s m args below meth c ad cT D A C H locs ls hP hD hS hl')
theorem ev_lsw {dflt : Int} {ps : Array (Int × Int)} {len : Nat} {x : Int32} {off : Int} (tgt : Nat) (hd : decode M.2.1 pc = .ok (.lookupswitch dflt ps, len)) (hp : (ps.toList.zip (ps.toList.drop 1)).all (fun (a, next) => a.1 < next.1) = true) (ho : Op.lookupswitch.offset ps.toList dflt x.toInt = off) (ht : (pc : Int) + off = (tgt : Int)) (kk : Ev M d tgt loc st S L Q) : Ev M d pc loc (.int x :: st) S L Q := by
  intro p l e R s m args below meth c ad cT D A C H locs ls hP hD hS hl'
  exact lv_lookup C.1 C.2.1 hd hp ho ht (kk p l e R s m args below meth c ad cT D A C H locs ls hP hD hS hl')
end GXT
end
section
section GXU
variable {M : gx_M} {d pc : Nat} {loc : List (Option Value)} {st : List Value} {S : gx_S} {L : gx_L} {Q : Option Value → gx_S → gx_L → Prop}
/-! ===== fields and arrays ===== -/
theorem gx_field {ad : Nat → Nat} {cT : Nat → ClassId} {o ci k t : Nat} (h : gx_tp o ci k = some t) : ∃ fs : List Value, (gx_w ad cT S L)[o]? = some (ad o, .inr (ci, fs)) ∧ fs[k]? = some (gx_fv ad (S o) (L o) k t) := by
  obtain ⟨tm, h1, h2⟩ := gx_tp_spec h
  refine ⟨tm.mapIdx (fun j t => gx_fv ad (S o) (L o) j t), gx_w_get h1, ?_⟩
  rw [List.getElem?_mapIdx, h2]
  rfl
theorem ev_get {o ci k t idx : Nat} {v : Value} (hd : decode M.2.1 pc = .ok (.getfield idx, 3)) (hk : gx_FL M.1.cls idx ci k) (ht : gx_tp o ci k = some t) (hv : ∀ ad : Nat → Nat, gx_fv ad (S o) (L o) k t = gx_v ad v) (kk : Ev M d (pc + 3) loc (v :: st) S L Q) : Ev M d pc loc (.ref o :: st) S L Q := by
  intro p l e R s m args below meth c ad cT D A C H locs ls hP hD hS hl'
  obtain ⟨Cn, T, N, hc, hkN, hin, hl⟩ := hk
  obtain ⟨fs, h1, h2⟩ := gx_field (S := S) (L := L) (ad := ad) (cT := cT) ht
  have k1 := kk p l e R s m args below meth c ad cT D A C H locs ls hP hD hS hl'
  rw [hv ad] at h2
  rcases hl with hl | ⟨host, hl⟩
  · exact va_get (T := T) C.1 C.2.1 C.2.2.2.2.2.1 hin C.2.2.2.2.1 C.2.2.2.2.2.2.2.1 hP o h1 hc k hkN (C.2.2.2.2.2.1 _ hl) (fun _ h9 => h9) h2 hd k1
  · exact va_getN (T := T) C.1 C.2.1 C.2.2.2.2.2.1 hin C.2.2.2.2.1 C.2.2.2.2.2.2.2.1 hP o h1 hc k hkN (C.2.2.2.2.2.2.2.2.2.2.2.2.use hl) (fun _ h9 => h9) h2 hd k1
theorem ev_geti {o ci k idx : Nat} (hd : decode M.2.1 pc = .ok (.getfield idx, 3)) (hk : gx_FL M.1.cls idx ci k) (ht : gx_tp o ci k = some 0) (kk : Ev M d (pc + 3) loc (.int (S o k) :: st) S L Q) : Ev M d pc loc (.ref o :: st) S L Q := ev_get hd hk ht (fun _ => rfl) kk
theorem ev_getl {o ci k idx : Nat} (hd : decode M.2.1 pc = .ok (.getfield idx, 3)) (hk : gx_FL M.1.cls idx ci k) (ht : gx_tp o ci k = some 1) (kk : Ev M d (pc + 3) loc (.long (L o) :: st) S L Q) : Ev M d pc loc (.ref o :: st) S L Q := ev_get hd hk ht (fun _ => rfl) kk
theorem ev_getr {o ci k idx r : Nat} (hd : decode M.2.1 pc = .ok (.getfield idx, 3)) (hk : gx_FL M.1.cls idx ci k) (ht : gx_tp o ci k = some (r + 2)) (kk : Ev M d (pc + 3) loc (.ref r :: st) S L Q) : Ev M d pc loc (.ref o :: st) S L Q := ev_get hd hk ht (fun _ => rfl) kk
theorem gx_fs_set {ad : Nat → Nat} {f f' : Nat → Int32} {lg lg' : Int64} {tm : List Nat} {k t : Nat} (h : tm[k]? = some t) {v : Value} (hv : v = gx_fv ad f' lg' k t) (ho : ∀ j t', j ≠ k → tm[j]? = some t' → gx_fv ad f' lg' j t' = gx_fv ad f lg j t') : (tm.mapIdx (fun j t => gx_fv ad f lg j t)).set k v = tm.mapIdx (fun j t => gx_fv ad f' lg' j t) := by
  apply List.ext_getElem?
  intro i
  rw [List.getElem?_set, List.getElem?_mapIdx, List.getElem?_mapIdx]
  have hk : k < tm.length := (List.getElem?_eq_some_iff.mp h).1
  by_cases hi : k = i
  · subst hi
    rw [if_pos rfl, if_pos (by rw [List.length_mapIdx]; exact hk), h, hv]
    rfl
  · rw [if_neg hi]
    cases hti : tm[i]? with
    | none => rfl
    | some t' => exact (congrArg some (ho i t' (Ne.symm hi) hti)).symm
def gx_u2 (S : gx_S) (o k : Nat) (x : Int32) : gx_S := gx_up S o (upd (S o) k x)
theorem ev_puti {o ci k idx : Nat} {x : Int32} (hd : decode M.2.1 pc = .ok (.putfield idx, 3)) (hk : gx_FP M.1.cls idx ci k .int) (ht : gx_tp o ci k = some 0) (kk : Ev M d (pc + 3) loc st (gx_u2 S o k x) L Q) : Ev M d pc loc (.int x :: .ref o :: st) S L Q := by
  intro p l e R s m args below meth c ad cT D A C H locs ls hP hD hS hl'
  obtain ⟨Cn, T, N, ty0, hc, hkN, hin, hl, hty, hnm, hfin, hpd⟩ := hk
  obtain ⟨tm, h1, h2⟩ := gx_tp_spec ht
  have g1 := gx_w_get (ad := ad) (cT := cT) (S := S) (L := L) h1
  have hset : (gx_w ad cT S L).set o (ad o, .inr (ci, (tm.mapIdx (fun j t => gx_fv ad (S o) (L o) j t)).set k (.int x))) = gx_w ad cT (gx_u2 S o k x) L := by
    refine gx_w_set h1 ?_ (fun i hi => gx_up_ne S _ hi) (fun _ _ => rfl)
    have h3 : gx_u2 S o k x o = upd (S o) k x := gx_up_at S o _
    rw [h3]
    refine congrArg Sum.inr (congrArg (Prod.mk ci) (gx_fs_set h2 ?_ (fun j t' hj _ => ?_)))
    · show Value.int x = .int (upd (S o) k x k)
      unfold upd
      rw [if_pos rfl]
    · match t' with
      | 0 =>
        show Value.int (upd (S o) k x j) = .int (S o j)
        unfold upd
        rw [if_neg hj]
      | 1 => rfl
      | r + 2 => rfl
  have hlen : k < (tm.mapIdx (fun j t => gx_fv ad (S o) (L o) j t)).length := by
    rw [List.length_mapIdx]
    exact (List.getElem?_eq_some_iff.mp h2).1
  have k1 : ∀ (H1 : Heap) (locs1 : List Loc), va_P D vwCl ((gx_w ad cT S L).set o (ad o, .inr (ci, (tm.mapIdx (fun j t => gx_fv ad (S o) (L o) j t)).set k (.int x)))) H1 → va_D A ((gx_w ad cT S L).set o (ad o, .inr (ci, (tm.mapIdx (fun j t => gx_fv ad (S o) (L o) j t)).set k (.int x)))) → va_S A s.heap H1 locs1 → W p l e R s m args below meth c H1 locs1 0 0 (MQ below (gx_Qc ad cT D A Q) args s 0 0 A) (F0 m (pc + 3) ls (st.map (gx_v ad))) := by
    rw [hset]
    exact fun H1 locs1 a b e9 => kk p l e R s m args below meth c ad cT D A C H1 locs1 ls a b e9 hl'
  rcases hl with hl | ⟨host, hl⟩
  · exact va_put (T := T) C.1 C.2.1 C.2.2.2.2.2.1 hin ty0 hty hnm C.2.2.2.2.1 C.2.2.2.2.2.2.2.1 hP hD hS o g1 hc k hkN (C.2.2.2.2.2.1 _ hl) (fun _ h9 => h9) hfin hpd rfl rfl hlen hd k1
  · exact va_putN (T := T) C.1 C.2.1 C.2.2.2.2.2.1 hin ty0 hty hnm C.2.2.2.2.1 C.2.2.2.2.2.2.2.1 hP hD hS o g1 hc k hkN (C.2.2.2.2.2.2.2.2.2.2.2.2.use hl) (fun _ h9 => h9) hfin hpd rfl rfl hlen hd k1
theorem ev_putl {o ci k idx : Nat} {x : Int64} (hone : ∀ j t', j ≠ k → (∃ tm : List Nat, sh_all[o]? = some (.inr (ci, tm)) ∧ tm[j]? = some t') → t' ≠ 1) (hd : decode M.2.1 pc = .ok (.putfield idx, 3)) (hk : gx_FP M.1.cls idx ci k .long) (ht : gx_tp o ci k = some 1) (kk : Ev M d (pc + 3) loc st S (gx_uL L o x) Q) : Ev M d pc loc (.long x :: .ref o :: st) S L Q := by
  intro p l e R s m args below meth c ad cT D A C H locs ls hP hD hS hl'
  obtain ⟨Cn, T, N, ty0, hc, hkN, hin, hl, hty, hnm, hfin, hpd⟩ := hk
  obtain ⟨tm, h1, h2⟩ := gx_tp_spec ht
  have g1 := gx_w_get (ad := ad) (cT := cT) (S := S) (L := L) h1
  have hset : (gx_w ad cT S L).set o (ad o, .inr (ci, (tm.mapIdx (fun j t => gx_fv ad (S o) (L o) j t)).set k (.long x))) = gx_w ad cT S (gx_uL L o x) := by
    refine gx_w_set h1 ?_ (fun _ _ => rfl) (fun i hi => gx_uL_ne L _ hi)
    rw [gx_uL_at]
    refine congrArg Sum.inr (congrArg (Prod.mk ci) (gx_fs_set h2 rfl (fun j t' hj htj => ?_)))
    have hne := hone j t' hj ⟨tm, h1, htj⟩
    match t', hne with
    | 0, _ => rfl
    | 1, hne => exact absurd rfl hne
    | r + 2, _ => rfl
  have hlen : k < (tm.mapIdx (fun j t => gx_fv ad (S o) (L o) j t)).length := by
    rw [List.length_mapIdx]
    exact (List.getElem?_eq_some_iff.mp h2).1
  have k1 : ∀ (H1 : Heap) (locs1 : List Loc), va_P D vwCl ((gx_w ad cT S L).set o (ad o, .inr (ci, (tm.mapIdx (fun j t => gx_fv ad (S o) (L o) j t)).set k (.long x)))) H1 → va_D A ((gx_w ad cT S L).set o (ad o, .inr (ci, (tm.mapIdx (fun j t => gx_fv ad (S o) (L o) j t)).set k (.long x)))) → va_S A s.heap H1 locs1 → W p l e R s m args below meth c H1 locs1 0 0 (MQ below (gx_Qc ad cT D A Q) args s 0 0 A) (F0 m (pc + 3) ls (st.map (gx_v ad))) := by
    rw [hset]
    exact fun H1 locs1 a b e9 => kk p l e R s m args below meth c ad cT D A C H1 locs1 ls a b e9 hl'
  rcases hl with hl | ⟨host, hl⟩
  · exact va_put (T := T) C.1 C.2.1 C.2.2.2.2.2.1 hin ty0 hty hnm C.2.2.2.2.1 C.2.2.2.2.2.2.2.1 hP hD hS o g1 hc k hkN (C.2.2.2.2.2.1 _ hl) (fun _ h9 => h9) hfin hpd rfl rfl hlen hd k1
  · exact va_putN (T := T) C.1 C.2.1 C.2.2.2.2.2.1 hin ty0 hty hnm C.2.2.2.2.1 C.2.2.2.2.2.2.2.1 hP hD hS o g1 hc k hkN (C.2.2.2.2.2.2.2.2.2.2.2.2.use hl) (fun _ h9 => h9) hfin hpd rfl rfl hlen hd k1
theorem ev_iald {o n : Nat} {i : Int32} (hd : decode M.2.1 pc = .ok (.iaload, 1)) (ha : gx_ar o = some (0, n)) (hin : vp_in i n) (kk : Ev M d (pc + 1) loc (.int (S o i.toNatClampNeg) :: st) S L Q) : Ev M d pc loc (.int i :: .ref o :: st) S L Q := by
  intro p l e R s m args below meth c ad cT D A C H locs ls hP hD hS hl'
  exact va_iald C.1 C.2.1 C.2.2.2.2.2.2.2.1 hP o 0 (gx_w_get (gx_ar_spec ha)) rfl hin hd (kk p l e R s m args below meth c ad cT D A C H locs ls hP hD hS hl')
theorem ev_zald {o n : Nat} {i : Int32} (hd : decode M.2.1 pc = .ok (.baload, 1)) (ha : gx_ar o = some (1, n)) (hin : vp_in i n) (kk : Ev M d (pc + 1) loc (.int (S o i.toNatClampNeg) :: st) S L Q) : Ev M d pc loc (.int i :: .ref o :: st) S L Q := by
  intro p l e R s m args below meth c ad cT D A C H locs ls hP hD hS hl'
  exact va_zald C.1 C.2.1 C.2.2.2.2.2.2.2.1 hP o 1 (gx_w_get (gx_ar_spec ha)) rfl hin hd (kk p l e R s m args below meth c ad cT D A C H locs ls hP hD hS hl')
theorem ev_iast {o n : Nat} {i x : Int32} (hd : decode M.2.1 pc = .ok (.iastore, 1)) (ha : gx_ar o = some (0, n)) (hin : vp_in i n) (kk : Ev M d (pc + 1) loc st (gx_u2 S o i.toNatClampNeg x) L Q) : Ev M d pc loc (.int x :: .int i :: .ref o :: st) S L Q := by
  intro p l e R s m args below meth c ad cT D A C H locs ls hP hD hS hl'
  have g0 := gx_ar_spec ha
  have hset : (gx_w ad cT S L).set o (ad o, .inl (cT 0, n, .inl (upd (S o) i.toNatClampNeg x))) = gx_w ad cT (gx_u2 S o i.toNatClampNeg x) L := by
    refine gx_w_set g0 ?_ (fun i hi => gx_up_ne S _ hi) (fun _ _ => rfl)
    have h3 : gx_u2 S o i.toNatClampNeg x o = upd (S o) i.toNatClampNeg x := gx_up_at S o _
    rw [h3]
    rfl
  refine va_iast C.1 C.2.1 C.2.2.2.2.2.2.2.1 hP hD hS o 0 (gx_w_get g0) rfl hin hd ?_
  rw [hset]
  exact fun H1 locs1 a b e9 => kk p l e R s m args below meth c ad cT D A C H1 locs1 ls a b e9 hl'
theorem ev_zast {o n : Nat} {i x : Int32} (hd : decode M.2.1 pc = .ok (.bastore, 1)) (ha : gx_ar o = some (1, n)) (hin : vp_in i n) (kk : Ev M d (pc + 1) loc st (gx_u2 S o i.toNatClampNeg (vp_nar .boolean x)) L Q) : Ev M d pc loc (.int x :: .int i :: .ref o :: st) S L Q := by
  intro p l e R s m args below meth c ad cT D A C H locs ls hP hD hS hl'
  have g0 := gx_ar_spec ha
  have hset : (gx_w ad cT S L).set o (ad o, .inl (cT 1, n, .inl (upd (S o) i.toNatClampNeg (vp_nar .boolean x)))) = gx_w ad cT (gx_u2 S o i.toNatClampNeg (vp_nar .boolean x)) L := by
    refine gx_w_set g0 ?_ (fun i hi => gx_up_ne S _ hi) (fun _ _ => rfl)
    have h3 : gx_u2 S o i.toNatClampNeg (vp_nar .boolean x) o = upd (S o) i.toNatClampNeg (vp_nar .boolean x) := gx_up_at S o _
    rw [h3]
    rfl
  refine va_zast C.1 C.2.1 C.2.2.2.2.2.2.2.1 hP hD hS o 1 (gx_w_get g0) rfl hin hd ?_
  rw [hset]
  exact fun H1 locs1 a b e9 => kk p l e R s m args below meth c ad cT D A C H1 locs1 ls a b e9 hl'
/-! ===== an array's index as a number ===== -/
theorem ev_iald' {o n j : Nat} (hd : decode M.2.1 pc = .ok (.iaload, 1)) (ha : gx_ar o = some (0, n)) (hj : j < n) (hn : n < 2 ^ 31) (kk : Ev M d (pc + 1) loc (.int (S o j) :: st) S L Q) : Ev M d pc loc (.int (nI j) :: .ref o :: st) S L Q := by
  refine ev_iald hd ha (vp_in_nI hj hn) ?_
  rw [nI_clamp (Nat.lt_trans hj hn)]
  exact kk
theorem ev_iast' {o n j : Nat} {x : Int32} (hd : decode M.2.1 pc = .ok (.iastore, 1)) (ha : gx_ar o = some (0, n)) (hj : j < n) (hn : n < 2 ^ 31) (kk : Ev M d (pc + 1) loc st (gx_u2 S o j x) L Q) : Ev M d pc loc (.int x :: .int (nI j) :: .ref o :: st) S L Q := by
  refine ev_iast hd ha (vp_in_nI hj hn) ?_
  rw [nI_clamp (Nat.lt_trans hj hn)]
  exact kk
end GXU
end
section
section GXV
variable {M : gx_M} {d pc : Nat} {loc : List (Option Value)} {st : List Value} {S : gx_S} {L : gx_L} {Q : Option Value → gx_S → gx_L → Prop}
/-! ===== ends ===== -/
theorem gx_end {ad : Nat → Nat} {cT : Nat → ClassId} {D : va_G} {A : Nat → Prop} {s t : State} {H : Heap} {locs : List Loc} {args : Array Value} {v : Option Value} (hP : va_P D vwCl (gx_w ad cT S L) H) (hD : va_D A (gx_w ad cT S L)) (hS : va_S A s.heap H locs) (hK : va_K D vwCl (gx_T cT) s) (hq : Q v S L) (ht : t.heap = H) (hW : s.WarmedH t.vm) : gx_Qc ad cT D A Q args s (.returned (v.map (gx_v ad))) t :=
  ⟨⟨v, S, L, rfl, hq, by rw [ht]; exact hP, va_K.moved hW.alike hK, hD⟩, hS.F ht⟩
theorem ev_iret {x : Int32} (hd : decode M.2.1 pc = .ok (.ireturn, 1)) (hq : Q (some (.int x)) S L) (hr : M.2.2.2 = some .int := by rfl) : Ev M d pc loc [.int x] S L Q := by
  intro p l e R s m args below meth c ad cT D A C H locs ls hP hD hS hl'
  exact W.iret (v := x) C.1 C.2.1 (C.2.2.2.1.trans hr) (fun t ht hW => gx_end (v := some (.int x)) hP hD hS C.2.2.2.2.2.2.2.1 hq ht hW) hS.2.2 hd C.2.2.2.2.2.2.1
theorem ev_zret {x : Int32} (hd : decode M.2.1 pc = .ok (.ireturn, 1)) (hn : narrow .boolean (.int x) = .int x) (hq : Q (some (.int x)) S L) (hr : M.2.2.2 = some .boolean := by rfl) : Ev M d pc loc [.int x] S L Q := by
  intro p l e R s m args below meth c ad cT D A C H locs ls hP hD hS hl'
  exact W.zret (v := x) (ty := .boolean) C.1 C.2.1 (C.2.2.2.1.trans hr) hn (fun t ht hW => gx_end (v := some (.int x)) hP hD hS C.2.2.2.2.2.2.2.1 hq ht hW) hS.2.2 hd C.2.2.2.2.2.2.1
theorem ev_lret {x : Int64} (hd : decode M.2.1 pc = .ok (.lreturn, 1)) (hq : Q (some (.long x)) S L) (hr : M.2.2.2 = some .long := by rfl) : Ev M d pc loc [.long x] S L Q := by
  intro p l e R s m args below meth c ad cT D A C H locs ls hP hD hS hl'
  exact W.lret (v := x) C.1 C.2.1 (C.2.2.2.1.trans hr) (fun t ht hW => gx_end (v := some (.long x)) hP hD hS C.2.2.2.2.2.2.2.1 hq ht hW) hS.2.2 hd C.2.2.2.2.2.2.1
theorem ev_vret (hd : decode M.2.1 pc = .ok (.return_, 1)) (hq : Q none S L) (hr : M.2.2.2 = none := by rfl) : Ev M d pc loc [] S L Q := by
  intro p l e R s m args below meth c ad cT D A C H locs ls hP hD hS hl'
  exact W.vret C.1 C.2.1 (C.2.2.2.1.trans hr) (fun t ht hW => gx_end (v := none) hP hD hS C.2.2.2.2.2.2.2.1 hq ht hW) hS.2.2 hd C.2.2.2.2.2.2.1
/-! ===== a method's beginning ===== -/
def gx_sl (av : List Value) : List (Option Value) := av.flatMap fun v => if v.category = 2 then [some v, none] else [some v]
def gx_ent (nL : Nat) (av : List Value) : List (Option Value) := gx_sl av ++ List.replicate (nL - (gx_sl av).length) none
theorem gx_sl_slots (ad : Nat → Nat) (av : List Value) : lg_sl (av.map (gx_v ad)) = (gx_sl av).map (fun o => match o with
    | some v => Slot.val (gx_v ad v)
    | none => Slot.second) := by
  induction av with
  | nil => rfl
  | cons v av ih =>
    unfold lg_sl gx_sl at ih ⊢
    rw [List.map_cons, List.flatMap_cons, List.flatMap_cons, List.map_append, ih, gx_v_cat]
    congr 1
    split <;> rfl
theorem gx_lr_entry (ad : Nat → Nat) (av : List Value) {nL : Nat} (h : (gx_sl av).length ≤ nL) : gx_lr ad ((lg_sl (av.map (gx_v ad)) ++ List.replicate (nL - (lg_sl (av.map (gx_v ad))).length) Slot.unset).toArray) nL (gx_ent nL av) := by
  have hlen : (lg_sl (av.map (gx_v ad))).length = (gx_sl av).length := by rw [gx_sl_slots, List.length_map]
  have h0 := lv_entry (av.map (gx_v ad)) (n := nL) (by rw [hlen]; exact h)
  refine ⟨h0.1, h0.2.1, ?_, fun i v hi => ?_⟩
  · unfold gx_ent
    rw [List.length_append, List.length_replicate]
    omega
  · unfold gx_ent at hi
    rw [List.getElem?_append] at hi
    split at hi
    · rename_i hlt
      rw [List.getElem?_toArray, List.getElem?_append_left (by rw [hlen]; exact hlt), gx_sl_slots, List.getElem?_map, hi]
      rfl
    · have := List.eq_of_mem_replicate (List.mem_of_getElem? hi)
      cases this
theorem ct_intro {av : List Value} (hy : plainName M.1.cls = true) (hlen : (gx_sl av).length ≤ M.2.2.1) (he : gx_ent M.2.2.1 av = loc) (k : Ev M d 0 loc [] S L Q) : Ct d M av S L Q := by
  intro l ad cT D sz
  refine Met.ofW (cc := M.2.1) (maxL := M.2.2.1) (ret := M.2.2.2) hy rfl ?_
  intro p e s m args below meth c s₁ B hml hv
  obtain ⟨rfl, hsz, hP, hK, hD0, hZ, hN⟩ := hv
  subst hsz
  have hts := atoms_spec (ws := .code M.1 M.2.1 M.2.2.1 M.2.2.2 :: gw_tbl) B.pre
  have hown : s.vm.findClass M.1.cls = some m.cls := findClass_of_methodNamed B.named
  have hD := hD0.self (sz := s.heap.size)
  rw [lg_entry_eq]
  subst he
  exact k p l e _ s m _ below meth c ad cT D _ ⟨B.exec, B.bytes, hml, B.returns, hown, fun w hw => hts w (List.mem_cons_of_mem _ hw), B.notSynchronized, hK, hZ, Nat.le_refl _, Nat.le_refl _, fun q h => Or.inr h, hN⟩ s.heap [] _ hP hD va_S.rf (gx_lr_entry ad av hlen)
/-! ===== calls ===== -/
theorem gx_pre {ad : Nat → Nat} {cT : Nat → ClassId} {D : va_G} {A : Nat → Prop} {s U : State} {H : Heap} {locs : List Loc} {av : List Value} (hP : va_P D vwCl (gx_w ad cT S L) H) (hD : va_D A (gx_w ad cT S L)) (hS : va_S A s.heap H locs) (hK : va_K D vwCl (gx_T cT) s) (hZ : gx_Z A s s.heap) (hN : gx_N s) (hA : ∀ q, va_A (gx_w ad cT S L) H.size q → A q) (hU : U.heap = H) (hW : s.WarmedH U.vm) :
    va_Pc (av.map (gx_v ad)) (fun U => U.heap.size = H.size ∧ va_P D vwCl (gx_w ad cT S L) U.heap ∧ va_K D vwCl (gx_T cT) U ∧ va_D (fun _ => True) (gx_w ad cT S L) ∧ gx_Z (va_A (gx_w ad cT S L) H.size) U U.heap ∧ gx_N U) (av.map (gx_v ad)).toArray U := by
  obtain ⟨t, z1, z2⟩ := hZ
  refine ⟨rfl, by rw [hU], by rw [hU]; exact hP, va_K.moved hW.alike hK, hD.weaken (fun _ _ _ _ => trivial), ⟨t, ?_, ?_⟩, hN.warm hW⟩
  · rw [hU]
    exact va_Z.moved hW.alike ((z1.kept (H1 := H) (fun a h1 h2 => hS.2.1 a h1 h2)).narrow hA)
  · rw [hU]
    exact va_T.moved hW.alike ((z2.kept (H1 := H) (fun a h1 h2 => hS.2.1 a h1 h2)).narrow hA)
theorem gx_blind {ad : Nat → Nat} {cT : Nat → ClassId} {D : va_G} {sz : Nat} {A : Nat → Prop} {av : List Value} : FrameBlind (va_Pc (av.map (gx_v ad)) (fun U => U.heap.size = sz ∧ va_P D vwCl (gx_w ad cT S L) U.heap ∧ va_K D vwCl (gx_T cT) U ∧ va_D (fun _ => True) (gx_w ad cT S L) ∧ gx_Z A U U.heap ∧ gx_N U)) := by
  intro a U g mk q
  obtain ⟨q0, q1, qP, qK, qD, ⟨t, z1, z2⟩, qN⟩ := q
  exact ⟨q0, q1, qP, va_K.moved (u := U) (U := U.calling g mk a) (Vm.Alike.refl U.vm) qK, qD, ⟨t, va_Z.moved (u := U) (U := U.calling g mk a) (Vm.Alike.refl U.vm) z1, va_T.moved (u := U) (U := U.calling g mk a) (Vm.Alike.refl U.vm) z2⟩, gx_N.same (s := U) (U := U.calling g mk a) rfl qN⟩
theorem gx_free {ad : Nat → Nat} {cT : Nat → ClassId} {A : Nat → Prop} {H0 H : Heap} {locs : List Loc} (hD : va_D A (gx_w ad cT S L)) (hS : va_S A H0 H locs) (hA : ∀ q, H0.size ≤ q → A q) : ∀ q, va_A (gx_w ad cT S L) H.size q → A q := by
  intro q h
  rcases h with ⟨k, e, h⟩ | h
  · exact hD.2 k (q, e) h
  · exact hA q (Nat.le_trans hS.1 h)
/-- behind a call -/
theorem gx_back {p : Program} {l : Launch} {e : Env} {R : Room} {s : State} {m : MethodId} {args a9 : Array Value} {below : List Frame} {meth : Method} {c : Code} {ad : Nat → Nat} {cT : Nat → ClassId} {D : va_G} {A : Nat → Prop} {H : Heap} {locs : List Loc} {ls : Array Slot} {st0 : List Value} {Q' : Option Value → gx_S → gx_L → Prop} {cells slots : Nat} {Qm : State → Prop}
    (hS : va_S A s.heap H locs) (hA : ∀ q, va_A (gx_w ad cT S L) H.size q → A q)
    (hr : va_Run p l e R s m args below meth c H locs cells slots 0 0 (F0 m pc ls st0) (st.map (gx_v ad)) (gx_Qc ad cT D (va_A (gx_w ad cT S L) H.size) Q' a9) (va_A (gx_w ad cT S L) H.size))
    (kk : ∀ (v : Option Value) (S' : gx_S) (L' : gx_L) (H1 : Heap) (locs1 : List Loc), Q' v S' L' → va_P D vwCl (gx_w ad cT S' L') H1 → va_D A (gx_w ad cT S' L') → va_S A s.heap H1 locs1 → W p l e R s m args below meth c H1 locs1 cells slots Qm (F0 m (pc + 3) ls ((v.toList ++ st).map (gx_v ad)))) :
    W p l e R s m args below meth c H locs cells slots Qm (F0 m pc ls st0) := by
  intro T hT X
  obtain ⟨v, st₀, t, T', Lc, h0, X', hL, e1, e2, ⟨⟨v', S', L', hv, hq, hP', hK', hD'⟩, hz, hk⟩, stp⟩ := hr T hT X
  cases hv
  rw [h0] at hz hk
  have hS' : va_S A s.heap T'.heap (locs ++ Lc) := ⟨Nat.le_trans hS.1 (by rw [e1]; exact hz), fun q h1 h2 => by rw [e1, hk q (Nat.lt_of_lt_of_le h1 hS.1) (fun z => h2 (hA q z))]; exact hS.2.1 q h1 h2, fun q hq9 => by
      rcases List.mem_append.mp hq9 with h | h
      · exact hS.2.2 q h
      · exact hA _ (hL q h)⟩
  have k1 := kk v' S' L' T'.heap (locs ++ Lc) hq (by rw [e1]; exact hP') (hD'.weaken (fun _ q _ h => hA q.1 h)) hS'
  have hst : (v'.map (gx_v ad)).toList ++ st.map (gx_v ad) = (v'.toList ++ st).map (gx_v ad) := by
    cases v' <;> rfl
  rw [← hst] at k1
  obtain ⟨t2, a1, b1⟩ := k1 T' rfl X'
  exact ⟨t2, stp t2 a1, b1⟩
theorem gx_room {st : List Value} {ad : Nat → Nat} {m : MethodId} {pc : Nat} {ls : Array Slot} {rest : List Value} (h : (st.map fun v => v.category).sum ≤ 8) : 2 * (F0 m pc ls rest).monitorRoom + ((st.map (gx_v ad)).map fun v => v.category).sum ≤ 8 := by
  refine lv_room ?_
  have : (st.map (gx_v ad)).map (fun v => v.category) = st.map (fun v => v.category) := by
    rw [List.map_map]
    exact List.map_congr_left (fun v _ => gx_v_cat ad v)
  rw [this]
  exact h
theorem gx_callB {M' : gx_M} {d' n idx : Nat} {own : String} {R : Room} {s : State} {args : Array Value} (hts : ∀ w ∈ gw_tbl, w.before args s = true) (hl : Cond.methodLink own idx M'.1 ∈ gw_tbl) (hini : Cond.initialized M'.1.cls ∈ gw_tbl) (hcode : Cond.code M'.1 M'.2.1 M'.2.2.1 M'.2.2.2 ∈ gw_tbl) (h1 : M'.1.cls ≠ "java/lang/invoke/MethodHandle") (h2 : M'.1.cls ≠ "java/lang/invoke/VarHandle") (hn : (parseMethodDescriptor M'.1.desc).map (fun d => d.parameters.length) = some n) (hm : M'.2.2.1 ≤ 45) (hf : d' + 1 ≤ R.frames) (hlo : 64 * (d' + 1) ≤ R.locals) :
    CallB R s args own idx M'.1 M'.2.1 M'.2.2.1 M'.2.2.2 (.code M'.1 M'.2.1 M'.2.2.1 M'.2.2.2 :: gw_tbl) (gx_rm d') 0 0 n :=
  callB_of n hts (gx_goodIn hcode) rfl rfl rfl (hts _ hini) (hts _ hl) ⟨h1, h2, hn⟩ ⟨hf, by show 8 + (M'.2.2.1 + 11) + 64 * d' ≤ R.locals; omega⟩
theorem gx_callN {M' : gx_M} {d' n idx : Nat} {own host : String} {R : Room} {s : State} {args : Array Value} (hts : ∀ w ∈ gw_tbl, w.before args s = true) (hl : va_Nw (Cond.methodLinkNest own idx M'.1 host) s) (hini : Cond.initialized M'.1.cls ∈ gw_tbl) (hcode : Cond.code M'.1 M'.2.1 M'.2.2.1 M'.2.2.2 ∈ gw_tbl) (h1 : M'.1.cls ≠ "java/lang/invoke/MethodHandle") (h2 : M'.1.cls ≠ "java/lang/invoke/VarHandle") (hn : (parseMethodDescriptor M'.1.desc).map (fun d => d.parameters.length) = some n) (hm : M'.2.2.1 ≤ 45) (hf : d' + 1 ≤ R.frames) (hlo : 64 * (d' + 1) ≤ R.locals) :
    va_CN R s args own idx M'.1 host M'.2.1 M'.2.2.1 M'.2.2.2 (.code M'.1 M'.2.1 M'.2.2.1 M'.2.2.2 :: gw_tbl) (gx_rm d') 0 0 n :=
  va_cnB n hts (gx_goodIn hcode) rfl rfl rfl hl (hts _ hini) ⟨h1, h2, hn⟩ ⟨hf, by show 8 + (M'.2.2.1 + 11) + 64 * d' ≤ R.locals; omega⟩
theorem ev_callV_g {M' : gx_M} {d' n idx b : Nat} {As : List Value} {st0 : List Value} {Q' : Option Value → gx_S → gx_L → Prop} {ci : Nat} {tm : List Nat} {q : vw_C} (hd : decode M.2.1 pc = .ok (.invokevirtual idx, 3)) (hk : gx_Lk M.1.cls idx M'.1) (hv : gx_MV M' n) (hn : As.length = n) (hb : sh_all[b]? = some (.inr (ci, tm))) (hq : vwCl[ci]? = some q) (hcl : q.1 = M'.1.cls) (hst : st0 = As.reverse ++ .ref b :: st) (hct : Ct d' M' (.ref b :: As) S L Q') (hdd : d' + 1 ≤ d) (hcat : (st.map fun v => v.category).sum ≤ 8)
    (kk : ∀ (v : Option Value) (S' : gx_S) (L' : gx_L), Q' v S' L' → Ev M d (pc + 3) loc (v.toList ++ st) S' L' Q) : Ev M d pc loc st0 S L Q := by
  intro p l e R s m args below meth c ad cT D A C H locs ls hP hD hS hl'
  have hA := gx_free hD hS C.2.2.2.2.2.2.2.2.2.2.2.1
  obtain ⟨v1, v2, v3, v4, v5, v6, v7, v8⟩ := hv
  obtain ⟨c1, c2, c3, c4, c5, c6, c7, c8, c9, c10, c11, c12, c13⟩ := C
  have hM := hct l ad cT D H.size
  have hpre : ∀ U : State, U.heap = H → s.WarmedH U.vm → _ := fun U hU hW => gx_pre (av := .ref b :: As) hP hD hS c8 c9 c13 hA hU hW
  have hrv := va_recv (a := ad b) (q0 := b) c8 hP hq (gx_w_get hb)
  rw [hcl] at hrv
  have hstk : st0.map (gx_v ad) = (As.map (gx_v ad)).reverse ++ .ref (ad b) :: st.map (gx_v ad) := by
    rw [hst, List.map_append, List.map_reverse]
    rfl
  have hsize : ls.size = M.2.2.1 := hl'.1
  have kk' := fun v S' L' H1 locs1 h9 a b e9 => kk v S' L' h9 p l e R s m args below meth c ad cT D A ⟨c1, c2, c3, c4, c5, c6, c7, c8, c9, c10, c11, c12, c13⟩ H1 locs1 ls a b e9 hl'
  rcases hk with hk | ⟨host, hk⟩
  · refine gx_back (S := S) (L := L) hS hA (va_runV (As := As.map (gx_v ad)) (rest := st.map (gx_v ad)) ⟨c1, c2, c3, c5, c6⟩ hM ⟨gx_callB c6 hk v3 v4 v5 v6 v7 v8 (Nat.le_trans hdd c10) (by omega), c6 _ v1, c6 _ v2⟩ ⟨gx_blind, hrv, hpre⟩ rfl (by rw [List.length_map]; exact hn) hsize hstk (gx_room hcat) hd ⟨Nat.zero_le _, Nat.zero_le _⟩) kk'
  · refine gx_back (S := S) (L := L) hS hA (va_runVN (As := As.map (gx_v ad)) (rest := st.map (gx_v ad)) ⟨c1, c2, c3, c5, c6⟩ hM ⟨gx_callN c6 (c13 _ hk) v3 v4 v5 v6 v7 v8 (Nat.le_trans hdd c10) (by omega), c6 _ v1, c6 _ v2⟩ ⟨gx_blind, hrv, hpre⟩ rfl (by rw [List.length_map]; exact hn) hsize hstk (gx_room hcat) hd ⟨Nat.zero_le _, Nat.zero_le _⟩) kk'
theorem ev_callS_g {M' : gx_M} {d' n idx : Nat} {As : List Value} {st0 : List Value} {Q' : Option Value → gx_S → gx_L → Prop} (hd : decode M.2.1 pc = .ok (.invokestatic idx, 3)) (hk : gx_Lk M.1.cls idx M'.1) (hv : gx_MS M' n) (hn : As.length = n) (hst : st0 = As.reverse ++ st) (hct : Ct d' M' As S L Q') (hdd : d' + 1 ≤ d) (hcat : (st.map fun v => v.category).sum ≤ 8)
    (kk : ∀ (v : Option Value) (S' : gx_S) (L' : gx_L), Q' v S' L' → Ev M d (pc + 3) loc (v.toList ++ st) S' L' Q) : Ev M d pc loc st0 S L Q := by
  intro p l e R s m args below meth c ad cT D A C H locs ls hP hD hS hl'
  have hA := gx_free hD hS C.2.2.2.2.2.2.2.2.2.2.2.1
  obtain ⟨v1, v3, v4, v5, v6, v7, v8⟩ := hv
  obtain ⟨c1, c2, c3, c4, c5, c6, c7, c8, c9, c10, c11, c12, c13⟩ := C
  have hM := hct l ad cT D H.size
  have hpre : ∀ U : State, U.heap = H → s.WarmedH U.vm → _ := fun U hU hW => gx_pre (av := As) hP hD hS c8 c9 c13 hA hU hW
  have hstk : st0.map (gx_v ad) = (As.map (gx_v ad)).reverse ++ st.map (gx_v ad) := by
    rw [hst, List.map_append, List.map_reverse]
  have hsize : ls.size = M.2.2.1 := hl'.1
  have kk' := fun v S' L' H1 locs1 h9 a b e9 => kk v S' L' h9 p l e R s m args below meth c ad cT D A ⟨c1, c2, c3, c4, c5, c6, c7, c8, c9, c10, c11, c12, c13⟩ H1 locs1 ls a b e9 hl'
  rcases hk with hk | ⟨host, hk⟩
  · refine gx_back (S := S) (L := L) hS hA (va_runS (As := As.map (gx_v ad)) (rest := st.map (gx_v ad)) ⟨c1, c2, c3, c5, c6⟩ hM ⟨gx_callB c6 hk v3 v4 v5 v6 v7 v8 (Nat.le_trans hdd c10) (by omega), c6 _ v1⟩ ⟨gx_blind, hpre⟩ rfl (by rw [List.length_map]; exact hn) hsize hstk (gx_room hcat) hd ⟨Nat.zero_le _, Nat.zero_le _⟩) kk'
  · refine gx_back (S := S) (L := L) hS hA (va_runSN (As := As.map (gx_v ad)) (rest := st.map (gx_v ad)) ⟨c1, c2, c3, c5, c6⟩ hM ⟨gx_callN c6 (c13 _ hk) v3 v4 v5 v6 v7 v8 (Nat.le_trans hdd c10) (by omega), c6 _ v1, trivial⟩ ⟨gx_blind, hpre⟩ rfl (by rw [List.length_map]; exact hn) hsize hstk (gx_room hcat) hd ⟨Nat.zero_le _, Nat.zero_le _⟩) kk'
end GXV
end
section
section GXW
variable {M M' : gx_M} {d d' pc idx b ci : Nat} {loc : List (Option Value)} {st : List Value} {S S' : gx_S} {L L' : gx_L} {Q : Option Value → gx_S → gx_L → Prop} {a1 a2 a3 a4 a5 a6 : Value} {P : Int32 → gx_S → gx_L → Prop} {Pl : Int64 → gx_S → gx_L → Prop} {Pv : gx_S → gx_L → Prop} {r : Int32} {rl : Int64}
/-- contracts by kind of answer; Cf, Cg, Cw: with the answer and the memory behind it -/
def Ci (d : Nat) (M : gx_M) (av : List Value) (S : gx_S) (L : gx_L) (P : Int32 → gx_S → gx_L → Prop) : Prop := Ct d M av S L (fun v S' L' => ∃ r : Int32, v = some (.int r) ∧ P r S' L')
def Cl (d : Nat) (M : gx_M) (av : List Value) (S : gx_S) (L : gx_L) (P : Int64 → gx_S → gx_L → Prop) : Prop := Ct d M av S L (fun v S' L' => ∃ r : Int64, v = some (.long r) ∧ P r S' L')
def Cv (d : Nat) (M : gx_M) (av : List Value) (S : gx_S) (L : gx_L) (P : gx_S → gx_L → Prop) : Prop := Ct d M av S L (fun v S' L' => v = none ∧ P S' L')
def Cf (d : Nat) (M : gx_M) (av : List Value) (S : gx_S) (L : gx_L) (r : Int32) (S' : gx_S) (L' : gx_L) : Prop := Ci d M av S L (fun r1 S1 L1 => r1 = r ∧ S1 = S' ∧ L1 = L')
def Cg (d : Nat) (M : gx_M) (av : List Value) (S : gx_S) (L : gx_L) (r : Int64) (S' : gx_S) (L' : gx_L) : Prop := Cl d M av S L (fun r1 S1 L1 => r1 = r ∧ S1 = S' ∧ L1 = L')
def Cw (d : Nat) (M : gx_M) (av : List Value) (S : gx_S) (L : gx_L) (S' : gx_S) (L' : gx_L) : Prop := Cv d M av S L (fun S1 L1 => S1 = S' ∧ L1 = L')
def gx_cl (b : Nat) : Option Nat := match sh_all[b]? with
  | some (.inr q) => some q.1
  | _ => none
/-- the class of a method, by its number -/
def gx_mc (M : gx_M) (ci : Nat) : Prop := ∃ q : vw_C, vwCl[ci]? = some q ∧ q.1 = M.1.cls
theorem gx_cl_spec (h : gx_cl b = some ci) : ∃ tm : List Nat, sh_all[b]? = some (.inr (ci, tm)) := by
  unfold gx_cl at h
  split at h
  · rename_i q hq
    cases h
    exact ⟨q.2, hq⟩
  · cases h
theorem ev_callV' {n : Nat} {As : List Value} {st0 : List Value} {Q' : Option Value → gx_S → gx_L → Prop} (hd : decode M.2.1 pc = .ok (.invokevirtual idx, 3)) (hk : gx_Lk M.1.cls idx M'.1) (hv : gx_MV M' n ∧ gx_mc M' ci) (hn : As.length = n) (hb : gx_cl b = some ci) (hst : st0 = As.reverse ++ .ref b :: st) (hct : Ct d' M' (.ref b :: As) S L Q') (hdd : d' + 1 ≤ d) (hcat : (st.map fun v => v.category).sum ≤ 8)
    (kk : ∀ (v : Option Value) (S' : gx_S) (L' : gx_L), Q' v S' L' → Ev M d (pc + 3) loc (v.toList ++ st) S' L' Q) : Ev M d pc loc st0 S L Q := by
  obtain ⟨tm, h1⟩ := gx_cl_spec hb
  obtain ⟨q, h2, h3⟩ := hv.2
  exact ev_callV_g hd hk hv.1 hn h1 h2 h3 hst hct hdd hcat kk
theorem ev_V0i (hd : decode M.2.1 pc = .ok (.invokevirtual idx, 3)) (hk : gx_Lk M.1.cls idx M'.1) (hv : gx_MV M' 0 ∧ gx_mc M' ci) (hb : gx_cl b = some ci) (hct : Cf d' M' [.ref b] S L r S' L') (hdd : d' + 1 ≤ d) (hcat : (st.map fun v => v.category).sum ≤ 8) (kk : Ev M d (pc + 3) loc (.int r :: st) S' L' Q) : Ev M d pc loc (.ref b :: st) S L Q := by
  refine ev_callV' (As := []) hd hk hv rfl hb rfl hct hdd hcat (fun v S9 L9 h9 => ?_)
  obtain ⟨_, rfl, rfl, rfl, rfl⟩ := h9
  exact kk
theorem ev_V0l (hd : decode M.2.1 pc = .ok (.invokevirtual idx, 3)) (hk : gx_Lk M.1.cls idx M'.1) (hv : gx_MV M' 0 ∧ gx_mc M' ci) (hb : gx_cl b = some ci) (hct : Cg d' M' [.ref b] S L rl S' L') (hdd : d' + 1 ≤ d) (hcat : (st.map fun v => v.category).sum ≤ 8) (kk : Ev M d (pc + 3) loc (.long rl :: st) S' L' Q) : Ev M d pc loc (.ref b :: st) S L Q := by
  refine ev_callV' (As := []) hd hk hv rfl hb rfl hct hdd hcat (fun v S9 L9 h9 => ?_)
  obtain ⟨_, rfl, rfl, rfl, rfl⟩ := h9
  exact kk
theorem ev_V0v (hd : decode M.2.1 pc = .ok (.invokevirtual idx, 3)) (hk : gx_Lk M.1.cls idx M'.1) (hv : gx_MV M' 0 ∧ gx_mc M' ci) (hb : gx_cl b = some ci) (hct : Cw d' M' [.ref b] S L S' L') (hdd : d' + 1 ≤ d) (hcat : (st.map fun v => v.category).sum ≤ 8) (kk : Ev M d (pc + 3) loc (st) S' L' Q) : Ev M d pc loc (.ref b :: st) S L Q := by
  refine ev_callV' (As := []) hd hk hv rfl hb rfl hct hdd hcat (fun v S9 L9 h9 => ?_)
  obtain ⟨rfl, rfl, rfl⟩ := h9
  exact kk
theorem ev_V0iq (hd : decode M.2.1 pc = .ok (.invokevirtual idx, 3)) (hk : gx_Lk M.1.cls idx M'.1) (hv : gx_MV M' 0 ∧ gx_mc M' ci) (hb : gx_cl b = some ci) (hct : Ci d' M' [.ref b] S L P) (hdd : d' + 1 ≤ d) (hcat : (st.map fun v => v.category).sum ≤ 8) (kk : ∀ (r9 : Int32) (S9 : gx_S) (L9 : gx_L), P r9 S9 L9 → Ev M d (pc + 3) loc (.int r9 :: st) S9 L9 Q) : Ev M d pc loc (.ref b :: st) S L Q := by
  refine ev_callV' (As := []) hd hk hv rfl hb rfl hct hdd hcat (fun v S9 L9 h9 => ?_)
  obtain ⟨r9, rfl, h9⟩ := h9
  exact kk r9 S9 L9 h9
theorem ev_V0vq (hd : decode M.2.1 pc = .ok (.invokevirtual idx, 3)) (hk : gx_Lk M.1.cls idx M'.1) (hv : gx_MV M' 0 ∧ gx_mc M' ci) (hb : gx_cl b = some ci) (hct : Cv d' M' [.ref b] S L Pv) (hdd : d' + 1 ≤ d) (hcat : (st.map fun v => v.category).sum ≤ 8) (kk : ∀ (S9 : gx_S) (L9 : gx_L), Pv S9 L9 → Ev M d (pc + 3) loc st S9 L9 Q) : Ev M d pc loc (.ref b :: st) S L Q := by
  refine ev_callV' (As := []) hd hk hv rfl hb rfl hct hdd hcat (fun v S9 L9 h9 => ?_)
  obtain ⟨rfl, h9⟩ := h9
  exact kk S9 L9 h9
theorem ev_V1i (hd : decode M.2.1 pc = .ok (.invokevirtual idx, 3)) (hk : gx_Lk M.1.cls idx M'.1) (hv : gx_MV M' 1 ∧ gx_mc M' ci) (hb : gx_cl b = some ci) (hct : Cf d' M' [.ref b, a1] S L r S' L') (hdd : d' + 1 ≤ d) (hcat : (st.map fun v => v.category).sum ≤ 8) (kk : Ev M d (pc + 3) loc (.int r :: st) S' L' Q) : Ev M d pc loc (a1 :: .ref b :: st) S L Q := by
  refine ev_callV' (As := [a1]) hd hk hv rfl hb rfl hct hdd hcat (fun v S9 L9 h9 => ?_)
  obtain ⟨_, rfl, rfl, rfl, rfl⟩ := h9
  exact kk
theorem ev_V1l (hd : decode M.2.1 pc = .ok (.invokevirtual idx, 3)) (hk : gx_Lk M.1.cls idx M'.1) (hv : gx_MV M' 1 ∧ gx_mc M' ci) (hb : gx_cl b = some ci) (hct : Cg d' M' [.ref b, a1] S L rl S' L') (hdd : d' + 1 ≤ d) (hcat : (st.map fun v => v.category).sum ≤ 8) (kk : Ev M d (pc + 3) loc (.long rl :: st) S' L' Q) : Ev M d pc loc (a1 :: .ref b :: st) S L Q := by
  refine ev_callV' (As := [a1]) hd hk hv rfl hb rfl hct hdd hcat (fun v S9 L9 h9 => ?_)
  obtain ⟨_, rfl, rfl, rfl, rfl⟩ := h9
  exact kk
theorem ev_V1v (hd : decode M.2.1 pc = .ok (.invokevirtual idx, 3)) (hk : gx_Lk M.1.cls idx M'.1) (hv : gx_MV M' 1 ∧ gx_mc M' ci) (hb : gx_cl b = some ci) (hct : Cw d' M' [.ref b, a1] S L S' L') (hdd : d' + 1 ≤ d) (hcat : (st.map fun v => v.category).sum ≤ 8) (kk : Ev M d (pc + 3) loc (st) S' L' Q) : Ev M d pc loc (a1 :: .ref b :: st) S L Q := by
  refine ev_callV' (As := [a1]) hd hk hv rfl hb rfl hct hdd hcat (fun v S9 L9 h9 => ?_)
  obtain ⟨rfl, rfl, rfl⟩ := h9
  exact kk
theorem ev_V1iq (hd : decode M.2.1 pc = .ok (.invokevirtual idx, 3)) (hk : gx_Lk M.1.cls idx M'.1) (hv : gx_MV M' 1 ∧ gx_mc M' ci) (hb : gx_cl b = some ci) (hct : Ci d' M' [.ref b, a1] S L P) (hdd : d' + 1 ≤ d) (hcat : (st.map fun v => v.category).sum ≤ 8) (kk : ∀ (r9 : Int32) (S9 : gx_S) (L9 : gx_L), P r9 S9 L9 → Ev M d (pc + 3) loc (.int r9 :: st) S9 L9 Q) : Ev M d pc loc (a1 :: .ref b :: st) S L Q := by
  refine ev_callV' (As := [a1]) hd hk hv rfl hb rfl hct hdd hcat (fun v S9 L9 h9 => ?_)
  obtain ⟨r9, rfl, h9⟩ := h9
  exact kk r9 S9 L9 h9
theorem ev_V1vq (hd : decode M.2.1 pc = .ok (.invokevirtual idx, 3)) (hk : gx_Lk M.1.cls idx M'.1) (hv : gx_MV M' 1 ∧ gx_mc M' ci) (hb : gx_cl b = some ci) (hct : Cv d' M' [.ref b, a1] S L Pv) (hdd : d' + 1 ≤ d) (hcat : (st.map fun v => v.category).sum ≤ 8) (kk : ∀ (S9 : gx_S) (L9 : gx_L), Pv S9 L9 → Ev M d (pc + 3) loc st S9 L9 Q) : Ev M d pc loc (a1 :: .ref b :: st) S L Q := by
  refine ev_callV' (As := [a1]) hd hk hv rfl hb rfl hct hdd hcat (fun v S9 L9 h9 => ?_)
  obtain ⟨rfl, h9⟩ := h9
  exact kk S9 L9 h9
theorem ev_V2i (hd : decode M.2.1 pc = .ok (.invokevirtual idx, 3)) (hk : gx_Lk M.1.cls idx M'.1) (hv : gx_MV M' 2 ∧ gx_mc M' ci) (hb : gx_cl b = some ci) (hct : Cf d' M' [.ref b, a1, a2] S L r S' L') (hdd : d' + 1 ≤ d) (hcat : (st.map fun v => v.category).sum ≤ 8) (kk : Ev M d (pc + 3) loc (.int r :: st) S' L' Q) : Ev M d pc loc (a2 :: a1 :: .ref b :: st) S L Q := by
  refine ev_callV' (As := [a1, a2]) hd hk hv rfl hb rfl hct hdd hcat (fun v S9 L9 h9 => ?_)
  obtain ⟨_, rfl, rfl, rfl, rfl⟩ := h9
  exact kk
theorem ev_V2l (hd : decode M.2.1 pc = .ok (.invokevirtual idx, 3)) (hk : gx_Lk M.1.cls idx M'.1) (hv : gx_MV M' 2 ∧ gx_mc M' ci) (hb : gx_cl b = some ci) (hct : Cg d' M' [.ref b, a1, a2] S L rl S' L') (hdd : d' + 1 ≤ d) (hcat : (st.map fun v => v.category).sum ≤ 8) (kk : Ev M d (pc + 3) loc (.long rl :: st) S' L' Q) : Ev M d pc loc (a2 :: a1 :: .ref b :: st) S L Q := by
  refine ev_callV' (As := [a1, a2]) hd hk hv rfl hb rfl hct hdd hcat (fun v S9 L9 h9 => ?_)
  obtain ⟨_, rfl, rfl, rfl, rfl⟩ := h9
  exact kk
theorem ev_V2v (hd : decode M.2.1 pc = .ok (.invokevirtual idx, 3)) (hk : gx_Lk M.1.cls idx M'.1) (hv : gx_MV M' 2 ∧ gx_mc M' ci) (hb : gx_cl b = some ci) (hct : Cw d' M' [.ref b, a1, a2] S L S' L') (hdd : d' + 1 ≤ d) (hcat : (st.map fun v => v.category).sum ≤ 8) (kk : Ev M d (pc + 3) loc (st) S' L' Q) : Ev M d pc loc (a2 :: a1 :: .ref b :: st) S L Q := by
  refine ev_callV' (As := [a1, a2]) hd hk hv rfl hb rfl hct hdd hcat (fun v S9 L9 h9 => ?_)
  obtain ⟨rfl, rfl, rfl⟩ := h9
  exact kk
theorem ev_V2iq (hd : decode M.2.1 pc = .ok (.invokevirtual idx, 3)) (hk : gx_Lk M.1.cls idx M'.1) (hv : gx_MV M' 2 ∧ gx_mc M' ci) (hb : gx_cl b = some ci) (hct : Ci d' M' [.ref b, a1, a2] S L P) (hdd : d' + 1 ≤ d) (hcat : (st.map fun v => v.category).sum ≤ 8) (kk : ∀ (r9 : Int32) (S9 : gx_S) (L9 : gx_L), P r9 S9 L9 → Ev M d (pc + 3) loc (.int r9 :: st) S9 L9 Q) : Ev M d pc loc (a2 :: a1 :: .ref b :: st) S L Q := by
  refine ev_callV' (As := [a1, a2]) hd hk hv rfl hb rfl hct hdd hcat (fun v S9 L9 h9 => ?_)
  obtain ⟨r9, rfl, h9⟩ := h9
  exact kk r9 S9 L9 h9
theorem ev_V2vq (hd : decode M.2.1 pc = .ok (.invokevirtual idx, 3)) (hk : gx_Lk M.1.cls idx M'.1) (hv : gx_MV M' 2 ∧ gx_mc M' ci) (hb : gx_cl b = some ci) (hct : Cv d' M' [.ref b, a1, a2] S L Pv) (hdd : d' + 1 ≤ d) (hcat : (st.map fun v => v.category).sum ≤ 8) (kk : ∀ (S9 : gx_S) (L9 : gx_L), Pv S9 L9 → Ev M d (pc + 3) loc st S9 L9 Q) : Ev M d pc loc (a2 :: a1 :: .ref b :: st) S L Q := by
  refine ev_callV' (As := [a1, a2]) hd hk hv rfl hb rfl hct hdd hcat (fun v S9 L9 h9 => ?_)
  obtain ⟨rfl, h9⟩ := h9
  exact kk S9 L9 h9
theorem ev_V3i (hd : decode M.2.1 pc = .ok (.invokevirtual idx, 3)) (hk : gx_Lk M.1.cls idx M'.1) (hv : gx_MV M' 3 ∧ gx_mc M' ci) (hb : gx_cl b = some ci) (hct : Cf d' M' [.ref b, a1, a2, a3] S L r S' L') (hdd : d' + 1 ≤ d) (hcat : (st.map fun v => v.category).sum ≤ 8) (kk : Ev M d (pc + 3) loc (.int r :: st) S' L' Q) : Ev M d pc loc (a3 :: a2 :: a1 :: .ref b :: st) S L Q := by
  refine ev_callV' (As := [a1, a2, a3]) hd hk hv rfl hb rfl hct hdd hcat (fun v S9 L9 h9 => ?_)
  obtain ⟨_, rfl, rfl, rfl, rfl⟩ := h9
  exact kk
theorem ev_V3l (hd : decode M.2.1 pc = .ok (.invokevirtual idx, 3)) (hk : gx_Lk M.1.cls idx M'.1) (hv : gx_MV M' 3 ∧ gx_mc M' ci) (hb : gx_cl b = some ci) (hct : Cg d' M' [.ref b, a1, a2, a3] S L rl S' L') (hdd : d' + 1 ≤ d) (hcat : (st.map fun v => v.category).sum ≤ 8) (kk : Ev M d (pc + 3) loc (.long rl :: st) S' L' Q) : Ev M d pc loc (a3 :: a2 :: a1 :: .ref b :: st) S L Q := by
  refine ev_callV' (As := [a1, a2, a3]) hd hk hv rfl hb rfl hct hdd hcat (fun v S9 L9 h9 => ?_)
  obtain ⟨_, rfl, rfl, rfl, rfl⟩ := h9
  exact kk
theorem ev_V3v (hd : decode M.2.1 pc = .ok (.invokevirtual idx, 3)) (hk : gx_Lk M.1.cls idx M'.1) (hv : gx_MV M' 3 ∧ gx_mc M' ci) (hb : gx_cl b = some ci) (hct : Cw d' M' [.ref b, a1, a2, a3] S L S' L') (hdd : d' + 1 ≤ d) (hcat : (st.map fun v => v.category).sum ≤ 8) (kk : Ev M d (pc + 3) loc (st) S' L' Q) : Ev M d pc loc (a3 :: a2 :: a1 :: .ref b :: st) S L Q := by
  refine ev_callV' (As := [a1, a2, a3]) hd hk hv rfl hb rfl hct hdd hcat (fun v S9 L9 h9 => ?_)
  obtain ⟨rfl, rfl, rfl⟩ := h9
  exact kk
theorem ev_V3iq (hd : decode M.2.1 pc = .ok (.invokevirtual idx, 3)) (hk : gx_Lk M.1.cls idx M'.1) (hv : gx_MV M' 3 ∧ gx_mc M' ci) (hb : gx_cl b = some ci) (hct : Ci d' M' [.ref b, a1, a2, a3] S L P) (hdd : d' + 1 ≤ d) (hcat : (st.map fun v => v.category).sum ≤ 8) (kk : ∀ (r9 : Int32) (S9 : gx_S) (L9 : gx_L), P r9 S9 L9 → Ev M d (pc + 3) loc (.int r9 :: st) S9 L9 Q) : Ev M d pc loc (a3 :: a2 :: a1 :: .ref b :: st) S L Q := by
  refine ev_callV' (As := [a1, a2, a3]) hd hk hv rfl hb rfl hct hdd hcat (fun v S9 L9 h9 => ?_)
  obtain ⟨r9, rfl, h9⟩ := h9
  exact kk r9 S9 L9 h9
theorem ev_V3vq (hd : decode M.2.1 pc = .ok (.invokevirtual idx, 3)) (hk : gx_Lk M.1.cls idx M'.1) (hv : gx_MV M' 3 ∧ gx_mc M' ci) (hb : gx_cl b = some ci) (hct : Cv d' M' [.ref b, a1, a2, a3] S L Pv) (hdd : d' + 1 ≤ d) (hcat : (st.map fun v => v.category).sum ≤ 8) (kk : ∀ (S9 : gx_S) (L9 : gx_L), Pv S9 L9 → Ev M d (pc + 3) loc st S9 L9 Q) : Ev M d pc loc (a3 :: a2 :: a1 :: .ref b :: st) S L Q := by
  refine ev_callV' (As := [a1, a2, a3]) hd hk hv rfl hb rfl hct hdd hcat (fun v S9 L9 h9 => ?_)
  obtain ⟨rfl, h9⟩ := h9
  exact kk S9 L9 h9
theorem ev_V4i (hd : decode M.2.1 pc = .ok (.invokevirtual idx, 3)) (hk : gx_Lk M.1.cls idx M'.1) (hv : gx_MV M' 4 ∧ gx_mc M' ci) (hb : gx_cl b = some ci) (hct : Cf d' M' [.ref b, a1, a2, a3, a4] S L r S' L') (hdd : d' + 1 ≤ d) (hcat : (st.map fun v => v.category).sum ≤ 8) (kk : Ev M d (pc + 3) loc (.int r :: st) S' L' Q) : Ev M d pc loc (a4 :: a3 :: a2 :: a1 :: .ref b :: st) S L Q := by
  refine ev_callV' (As := [a1, a2, a3, a4]) hd hk hv rfl hb rfl hct hdd hcat (fun v S9 L9 h9 => ?_)
  obtain ⟨_, rfl, rfl, rfl, rfl⟩ := h9
  exact kk
theorem ev_V4l (hd : decode M.2.1 pc = .ok (.invokevirtual idx, 3)) (hk : gx_Lk M.1.cls idx M'.1) (hv : gx_MV M' 4 ∧ gx_mc M' ci) (hb : gx_cl b = some ci) (hct : Cg d' M' [.ref b, a1, a2, a3, a4] S L rl S' L') (hdd : d' + 1 ≤ d) (hcat : (st.map fun v => v.category).sum ≤ 8) (kk : Ev M d (pc + 3) loc (.long rl :: st) S' L' Q) : Ev M d pc loc (a4 :: a3 :: a2 :: a1 :: .ref b :: st) S L Q := by
  refine ev_callV' (As := [a1, a2, a3, a4]) hd hk hv rfl hb rfl hct hdd hcat (fun v S9 L9 h9 => ?_)
  obtain ⟨_, rfl, rfl, rfl, rfl⟩ := h9
  exact kk
theorem ev_V4v (hd : decode M.2.1 pc = .ok (.invokevirtual idx, 3)) (hk : gx_Lk M.1.cls idx M'.1) (hv : gx_MV M' 4 ∧ gx_mc M' ci) (hb : gx_cl b = some ci) (hct : Cw d' M' [.ref b, a1, a2, a3, a4] S L S' L') (hdd : d' + 1 ≤ d) (hcat : (st.map fun v => v.category).sum ≤ 8) (kk : Ev M d (pc + 3) loc (st) S' L' Q) : Ev M d pc loc (a4 :: a3 :: a2 :: a1 :: .ref b :: st) S L Q := by
  refine ev_callV' (As := [a1, a2, a3, a4]) hd hk hv rfl hb rfl hct hdd hcat (fun v S9 L9 h9 => ?_)
  obtain ⟨rfl, rfl, rfl⟩ := h9
  exact kk
theorem ev_V4iq (hd : decode M.2.1 pc = .ok (.invokevirtual idx, 3)) (hk : gx_Lk M.1.cls idx M'.1) (hv : gx_MV M' 4 ∧ gx_mc M' ci) (hb : gx_cl b = some ci) (hct : Ci d' M' [.ref b, a1, a2, a3, a4] S L P) (hdd : d' + 1 ≤ d) (hcat : (st.map fun v => v.category).sum ≤ 8) (kk : ∀ (r9 : Int32) (S9 : gx_S) (L9 : gx_L), P r9 S9 L9 → Ev M d (pc + 3) loc (.int r9 :: st) S9 L9 Q) : Ev M d pc loc (a4 :: a3 :: a2 :: a1 :: .ref b :: st) S L Q := by
  refine ev_callV' (As := [a1, a2, a3, a4]) hd hk hv rfl hb rfl hct hdd hcat (fun v S9 L9 h9 => ?_)
  obtain ⟨r9, rfl, h9⟩ := h9
  exact kk r9 S9 L9 h9
theorem ev_V4vq (hd : decode M.2.1 pc = .ok (.invokevirtual idx, 3)) (hk : gx_Lk M.1.cls idx M'.1) (hv : gx_MV M' 4 ∧ gx_mc M' ci) (hb : gx_cl b = some ci) (hct : Cv d' M' [.ref b, a1, a2, a3, a4] S L Pv) (hdd : d' + 1 ≤ d) (hcat : (st.map fun v => v.category).sum ≤ 8) (kk : ∀ (S9 : gx_S) (L9 : gx_L), Pv S9 L9 → Ev M d (pc + 3) loc st S9 L9 Q) : Ev M d pc loc (a4 :: a3 :: a2 :: a1 :: .ref b :: st) S L Q := by
  refine ev_callV' (As := [a1, a2, a3, a4]) hd hk hv rfl hb rfl hct hdd hcat (fun v S9 L9 h9 => ?_)
  obtain ⟨rfl, h9⟩ := h9
  exact kk S9 L9 h9
theorem ev_V5i (hd : decode M.2.1 pc = .ok (.invokevirtual idx, 3)) (hk : gx_Lk M.1.cls idx M'.1) (hv : gx_MV M' 5 ∧ gx_mc M' ci) (hb : gx_cl b = some ci) (hct : Cf d' M' [.ref b, a1, a2, a3, a4, a5] S L r S' L') (hdd : d' + 1 ≤ d) (hcat : (st.map fun v => v.category).sum ≤ 8) (kk : Ev M d (pc + 3) loc (.int r :: st) S' L' Q) : Ev M d pc loc (a5 :: a4 :: a3 :: a2 :: a1 :: .ref b :: st) S L Q := by
  refine ev_callV' (As := [a1, a2, a3, a4, a5]) hd hk hv rfl hb rfl hct hdd hcat (fun v S9 L9 h9 => ?_)
  obtain ⟨_, rfl, rfl, rfl, rfl⟩ := h9
  exact kk
theorem ev_V5l (hd : decode M.2.1 pc = .ok (.invokevirtual idx, 3)) (hk : gx_Lk M.1.cls idx M'.1) (hv : gx_MV M' 5 ∧ gx_mc M' ci) (hb : gx_cl b = some ci) (hct : Cg d' M' [.ref b, a1, a2, a3, a4, a5] S L rl S' L') (hdd : d' + 1 ≤ d) (hcat : (st.map fun v => v.category).sum ≤ 8) (kk : Ev M d (pc + 3) loc (.long rl :: st) S' L' Q) : Ev M d pc loc (a5 :: a4 :: a3 :: a2 :: a1 :: .ref b :: st) S L Q := by
  refine ev_callV' (As := [a1, a2, a3, a4, a5]) hd hk hv rfl hb rfl hct hdd hcat (fun v S9 L9 h9 => ?_)
  obtain ⟨_, rfl, rfl, rfl, rfl⟩ := h9
  exact kk
theorem ev_V5v (hd : decode M.2.1 pc = .ok (.invokevirtual idx, 3)) (hk : gx_Lk M.1.cls idx M'.1) (hv : gx_MV M' 5 ∧ gx_mc M' ci) (hb : gx_cl b = some ci) (hct : Cw d' M' [.ref b, a1, a2, a3, a4, a5] S L S' L') (hdd : d' + 1 ≤ d) (hcat : (st.map fun v => v.category).sum ≤ 8) (kk : Ev M d (pc + 3) loc (st) S' L' Q) : Ev M d pc loc (a5 :: a4 :: a3 :: a2 :: a1 :: .ref b :: st) S L Q := by
  refine ev_callV' (As := [a1, a2, a3, a4, a5]) hd hk hv rfl hb rfl hct hdd hcat (fun v S9 L9 h9 => ?_)
  obtain ⟨rfl, rfl, rfl⟩ := h9
  exact kk
theorem ev_V5iq (hd : decode M.2.1 pc = .ok (.invokevirtual idx, 3)) (hk : gx_Lk M.1.cls idx M'.1) (hv : gx_MV M' 5 ∧ gx_mc M' ci) (hb : gx_cl b = some ci) (hct : Ci d' M' [.ref b, a1, a2, a3, a4, a5] S L P) (hdd : d' + 1 ≤ d) (hcat : (st.map fun v => v.category).sum ≤ 8) (kk : ∀ (r9 : Int32) (S9 : gx_S) (L9 : gx_L), P r9 S9 L9 → Ev M d (pc + 3) loc (.int r9 :: st) S9 L9 Q) : Ev M d pc loc (a5 :: a4 :: a3 :: a2 :: a1 :: .ref b :: st) S L Q := by
  refine ev_callV' (As := [a1, a2, a3, a4, a5]) hd hk hv rfl hb rfl hct hdd hcat (fun v S9 L9 h9 => ?_)
  obtain ⟨r9, rfl, h9⟩ := h9
  exact kk r9 S9 L9 h9
theorem ev_V5vq (hd : decode M.2.1 pc = .ok (.invokevirtual idx, 3)) (hk : gx_Lk M.1.cls idx M'.1) (hv : gx_MV M' 5 ∧ gx_mc M' ci) (hb : gx_cl b = some ci) (hct : Cv d' M' [.ref b, a1, a2, a3, a4, a5] S L Pv) (hdd : d' + 1 ≤ d) (hcat : (st.map fun v => v.category).sum ≤ 8) (kk : ∀ (S9 : gx_S) (L9 : gx_L), Pv S9 L9 → Ev M d (pc + 3) loc st S9 L9 Q) : Ev M d pc loc (a5 :: a4 :: a3 :: a2 :: a1 :: .ref b :: st) S L Q := by
  refine ev_callV' (As := [a1, a2, a3, a4, a5]) hd hk hv rfl hb rfl hct hdd hcat (fun v S9 L9 h9 => ?_)
  obtain ⟨rfl, h9⟩ := h9
  exact kk S9 L9 h9
theorem ev_S1i (hd : decode M.2.1 pc = .ok (.invokestatic idx, 3)) (hk : gx_Lk M.1.cls idx M'.1) (hv : gx_MS M' 1) (hct : Cf d' M' [a1] S L r S' L') (hdd : d' + 1 ≤ d) (hcat : (st.map fun v => v.category).sum ≤ 8) (kk : Ev M d (pc + 3) loc (.int r :: st) S' L' Q) : Ev M d pc loc (a1 :: st) S L Q := by
  refine ev_callS_g (As := [a1]) hd hk hv rfl rfl hct hdd hcat (fun v S9 L9 h9 => ?_)
  obtain ⟨_, rfl, rfl, rfl, rfl⟩ := h9
  exact kk
theorem ev_S1l (hd : decode M.2.1 pc = .ok (.invokestatic idx, 3)) (hk : gx_Lk M.1.cls idx M'.1) (hv : gx_MS M' 1) (hct : Cg d' M' [a1] S L rl S' L') (hdd : d' + 1 ≤ d) (hcat : (st.map fun v => v.category).sum ≤ 8) (kk : Ev M d (pc + 3) loc (.long rl :: st) S' L' Q) : Ev M d pc loc (a1 :: st) S L Q := by
  refine ev_callS_g (As := [a1]) hd hk hv rfl rfl hct hdd hcat (fun v S9 L9 h9 => ?_)
  obtain ⟨_, rfl, rfl, rfl, rfl⟩ := h9
  exact kk
theorem ev_S2i (hd : decode M.2.1 pc = .ok (.invokestatic idx, 3)) (hk : gx_Lk M.1.cls idx M'.1) (hv : gx_MS M' 2) (hct : Cf d' M' [a1, a2] S L r S' L') (hdd : d' + 1 ≤ d) (hcat : (st.map fun v => v.category).sum ≤ 8) (kk : Ev M d (pc + 3) loc (.int r :: st) S' L' Q) : Ev M d pc loc (a2 :: a1 :: st) S L Q := by
  refine ev_callS_g (As := [a1, a2]) hd hk hv rfl rfl hct hdd hcat (fun v S9 L9 h9 => ?_)
  obtain ⟨_, rfl, rfl, rfl, rfl⟩ := h9
  exact kk
theorem ev_S2l (hd : decode M.2.1 pc = .ok (.invokestatic idx, 3)) (hk : gx_Lk M.1.cls idx M'.1) (hv : gx_MS M' 2) (hct : Cg d' M' [a1, a2] S L rl S' L') (hdd : d' + 1 ≤ d) (hcat : (st.map fun v => v.category).sum ≤ 8) (kk : Ev M d (pc + 3) loc (.long rl :: st) S' L' Q) : Ev M d pc loc (a2 :: a1 :: st) S L Q := by
  refine ev_callS_g (As := [a1, a2]) hd hk hv rfl rfl hct hdd hcat (fun v S9 L9 h9 => ?_)
  obtain ⟨_, rfl, rfl, rfl, rfl⟩ := h9
  exact kk
theorem ev_S3i (hd : decode M.2.1 pc = .ok (.invokestatic idx, 3)) (hk : gx_Lk M.1.cls idx M'.1) (hv : gx_MS M' 3) (hct : Cf d' M' [a1, a2, a3] S L r S' L') (hdd : d' + 1 ≤ d) (hcat : (st.map fun v => v.category).sum ≤ 8) (kk : Ev M d (pc + 3) loc (.int r :: st) S' L' Q) : Ev M d pc loc (a3 :: a2 :: a1 :: st) S L Q := by
  refine ev_callS_g (As := [a1, a2, a3]) hd hk hv rfl rfl hct hdd hcat (fun v S9 L9 h9 => ?_)
  obtain ⟨_, rfl, rfl, rfl, rfl⟩ := h9
  exact kk
theorem ev_S3l (hd : decode M.2.1 pc = .ok (.invokestatic idx, 3)) (hk : gx_Lk M.1.cls idx M'.1) (hv : gx_MS M' 3) (hct : Cg d' M' [a1, a2, a3] S L rl S' L') (hdd : d' + 1 ≤ d) (hcat : (st.map fun v => v.category).sum ≤ 8) (kk : Ev M d (pc + 3) loc (.long rl :: st) S' L' Q) : Ev M d pc loc (a3 :: a2 :: a1 :: st) S L Q := by
  refine ev_callS_g (As := [a1, a2, a3]) hd hk hv rfl rfl hct hdd hcat (fun v S9 L9 h9 => ?_)
  obtain ⟨_, rfl, rfl, rfl, rfl⟩ := h9
  exact kk
theorem gx_cat {st : List Value} (ad : Nat → Nat) (h : (st.map fun v => v.category).sum ≤ 8) : ((st.map (gx_v ad)).map fun v => v.category).sum ≤ 8 := by
  have : (st.map (gx_v ad)).map (fun v => v.category) = st.map (fun v => v.category) := by
    rw [List.map_map]
    exact List.map_congr_left (fun v _ => gx_v_cat ad v)
  rw [this]
  exact h
theorem gx_max_w : Cond.static Lib.Math.max.name ∈ gw_tbl ∧ Cond.initialized "java/lang/Math" ∈ gw_tbl ∧ Cond.code Lib.Math.max.name Lib.Math.max.code 2 (some .int) ∈ gw_tbl := ⟨gw_in 200 (by decide +kernel) (by decide +kernel), gw_in 55 (by decide +kernel) (by decide +kernel), gw_in 201 (by decide +kernel) (by decide +kernel)⟩
theorem ev_max {x y : Int32} (hd : decode M.2.1 pc = .ok (.invokestatic idx, 3)) (hk : Cond.methodLink M.1.cls idx Lib.Math.max.name ∈ gw_tbl) (hdd : 1 ≤ d) (hcat : (st.map fun v => v.category).sum ≤ 8) (kk : Ev M d (pc + 3) loc (.int (if x < y then y else x) :: st) S L Q) : Ev M d pc loc (.int y :: .int x :: st) S L Q := by
  intro p l e R s m args below meth c ad cT D A C H locs ls hP hD hS hl'
  obtain ⟨c1, c2, c3, c4, c5, c6, c7, c8, c9, c10, c11, c12, c13⟩ := C
  have hcat' : ((st.map (gx_v ad)).map fun v => v.category).sum ≤ 8 := gx_cat ad hcat
  exact va_mmax c1 c2 (c3.trans hl'.1.symm) c5 (c6 _ hk) (c6 _ gx_max_w.1) (c6 _ gx_max_w.2.1) (c6 _ gx_max_w.2.2) (Nat.le_trans hdd c10) (by omega) (Nat.zero_le _) (Nat.zero_le _) hd (kk p l e R s m args below meth c ad cT D A ⟨c1, c2, c3, c4, c5, c6, c7, c8, c9, c10, c11, c12, c13⟩ H locs ls hP hD hS hl')
theorem gx_min_w : Cond.static Lib.Math.min.name ∈ gw_tbl ∧ Cond.initialized "java/lang/Math" ∈ gw_tbl ∧ Cond.code Lib.Math.min.name Lib.Math.min.code 2 (some .int) ∈ gw_tbl := ⟨gw_in 505 (by decide +kernel) (by decide +kernel), gw_in 55 (by decide +kernel) (by decide +kernel), gw_in 506 (by decide +kernel) (by decide +kernel)⟩
theorem ev_min {x y : Int32} (hd : decode M.2.1 pc = .ok (.invokestatic idx, 3)) (hk : Cond.methodLink M.1.cls idx Lib.Math.min.name ∈ gw_tbl) (hdd : 1 ≤ d) (hcat : (st.map fun v => v.category).sum ≤ 8) (kk : Ev M d (pc + 3) loc (.int (if y < x then y else x) :: st) S L Q) : Ev M d pc loc (.int y :: .int x :: st) S L Q := by
  intro p l e R s m args below meth c ad cT D A C H locs ls hP hD hS hl'
  obtain ⟨c1, c2, c3, c4, c5, c6, c7, c8, c9, c10, c11, c12, c13⟩ := C
  have hcat' : ((st.map (gx_v ad)).map fun v => v.category).sum ≤ 8 := gx_cat ad hcat
  exact va_mmin c1 c2 (c3.trans hl'.1.symm) c5 (c6 _ hk) (c6 _ gx_min_w.1) (c6 _ gx_min_w.2.1) (c6 _ gx_min_w.2.2) (Nat.le_trans hdd c10) (by omega) (Nat.zero_le _) (Nat.zero_le _) hd (kk p l e R s m args below meth c ad cT D A ⟨c1, c2, c3, c4, c5, c6, c7, c8, c9, c10, c11, c12, c13⟩ H locs ls hP hD hS hl')
theorem gx_abs_w : Cond.static Lib.Math.abs.name ∈ gw_tbl ∧ Cond.initialized "java/lang/Math" ∈ gw_tbl ∧ Cond.code Lib.Math.abs.name Lib.Math.abs.code 1 (some .int) ∈ gw_tbl := ⟨gw_in 743 (by decide +kernel) (by decide +kernel), gw_in 55 (by decide +kernel) (by decide +kernel), gw_in 744 (by decide +kernel) (by decide +kernel)⟩
theorem ev_abs {x : Int32} (hd : decode M.2.1 pc = .ok (.invokestatic idx, 3)) (hk : Cond.methodLink M.1.cls idx Lib.Math.abs.name ∈ gw_tbl) (hdd : 1 ≤ d) (hcat : (st.map fun v => v.category).sum ≤ 8) (kk : Ev M d (pc + 3) loc (.int (if 0 ≤ x then x else 0 - x) :: st) S L Q) : Ev M d pc loc (.int x :: st) S L Q := by
  intro p l e R s m args below meth c ad cT D A C H locs ls hP hD hS hl'
  obtain ⟨c1, c2, c3, c4, c5, c6, c7, c8, c9, c10, c11, c12, c13⟩ := C
  have hcat' : ((st.map (gx_v ad)).map fun v => v.category).sum ≤ 8 := gx_cat ad hcat
  exact va_mabs c1 c2 (c3.trans hl'.1.symm) c5 (c6 _ hk) (c6 _ gx_abs_w.1) (c6 _ gx_abs_w.2.1) (c6 _ gx_abs_w.2.2) (Nat.le_trans hdd c10) (by omega) (Nat.zero_le _) (Nat.zero_le _) hd (kk p l e R s m args below meth c ad cT D A ⟨c1, c2, c3, c4, c5, c6, c7, c8, c9, c10, c11, c12, c13⟩ H locs ls hP hD hS hl')
theorem gx_maxl_w : Cond.static Lib.MathLoose.max_long.x ∈ gw_tbl ∧ Cond.initialized "java/lang/Math" ∈ gw_tbl ∧ Cond.code Lib.MathLoose.max_long.x Lib.MathLoose.max_long.code 4 (some .long) ∈ gw_tbl := ⟨gw_in 678 (by decide +kernel) (by decide +kernel), gw_in 55 (by decide +kernel) (by decide +kernel), gw_in 679 (by decide +kernel) (by decide +kernel)⟩
theorem ev_maxl {x y : Int64} (hd : decode M.2.1 pc = .ok (.invokestatic idx, 3)) (hk : Cond.methodLink M.1.cls idx Lib.MathLoose.max_long.x ∈ gw_tbl) (hdd : 1 ≤ d) (hcat : (st.map fun v => v.category).sum ≤ 8) (kk : Ev M d (pc + 3) loc (.long (if y < x then x else y) :: st) S L Q) : Ev M d pc loc (.long y :: .long x :: st) S L Q := by
  intro p l e R s m args below meth c ad cT D A C H locs ls hP hD hS hl'
  obtain ⟨c1, c2, c3, c4, c5, c6, c7, c8, c9, c10, c11, c12, c13⟩ := C
  have hcat' : ((st.map (gx_v ad)).map fun v => v.category).sum ≤ 8 := gx_cat ad hcat
  exact va_mmax_long c1 c2 (c3.trans hl'.1.symm) c5 (c6 _ hk) (c6 _ gx_maxl_w.1) (c6 _ gx_maxl_w.2.1) (c6 _ gx_maxl_w.2.2) (Nat.le_trans hdd c10) (by omega) (Nat.zero_le _) (Nat.zero_le _) hd (kk p l e R s m args below meth c ad cT D A ⟨c1, c2, c3, c4, c5, c6, c7, c8, c9, c10, c11, c12, c13⟩ H locs ls hP hD hS hl')
theorem gx_copy_w : Cond.native arraycopyName ∈ gw_tbl ∧ Cond.static arraycopyName ∈ gw_tbl ∧ Cond.initialized "java/lang/System" ∈ gw_tbl := ⟨gw_in 444 (by decide +kernel) (by decide +kernel), gw_in 443 (by decide +kernel) (by decide +kernel), gw_in 61 (by decide +kernel) (by decide +kernel)⟩
theorem ev_copy {src dst n0 n1 sp dp n : Nat} {xs xd xn : Int32} (hd : decode M.2.1 pc = .ok (.invokestatic idx, 3)) (hk : Cond.methodLink M.1.cls idx arraycopyName ∈ gw_tbl) (hdd : 1 ≤ d) (hcat : (st.map fun v => v.category).sum ≤ 8) (h0 : gx_ar src = some (0, n0)) (h1 : gx_ar dst = some (0, n1)) (e1 : xs = nI sp) (e2 : xd = nI dp) (e3 : xn = nI n) (b1 : sp + n ≤ n0) (b2 : dp + n ≤ n1) (b3 : n0 < 2 ^ 31) (b4 : n1 < 2 ^ 31) (kk : Ev M d (pc + 3) loc st (gx_up S dst (va_cpy (S src) (S dst) sp dp n)) L Q) : Ev M d pc loc (.int xn :: .int xd :: .ref dst :: .int xs :: .ref src :: st) S L Q := by
  intro p l e R s m args below meth c ad cT D A C H locs ls hP hD hS hl'
  obtain ⟨c1, c2, c3, c4, c5, c6, c7, c8, c9, c10, c11, c12, c13⟩ := C
  have hcat' : ((st.map (gx_v ad)).map fun v => v.category).sum ≤ 8 := gx_cat ad hcat
  subst e1 e2 e3
  have p1 : sp < 2 ^ 31 := by omega
  have p2 : dp < 2 ^ 31 := by omega
  have p3 : n < 2 ^ 31 := by omega
  have g1 := gx_ar_spec h1
  have hset : (gx_w ad cT S L).set dst (ad dst, .inl (cT 0, n1, .inl (va_cpy (S src) (S dst) sp dp n))) = gx_w ad cT (gx_up S dst (va_cpy (S src) (S dst) sp dp n)) L := by
    refine gx_w_set g1 ?_ (fun i hi => gx_up_ne S _ hi) (fun _ _ => rfl)
    rw [gx_up_at]
    rfl
  have hw9 : nativeFrameWords "java/lang/System" "arraycopy" 5 ≤ 40 := by decide +kernel
  have hloc : ((st.map (gx_v ad)).map fun v => v.category).sum + (nativeFrameWords "java/lang/System" "arraycopy" 5 + 11) ≤ R.locals := by omega
  refine va_copyi c1 c2 (c3.trans hl'.1.symm) c5 (c6 _ hk) (c6 _ gx_copy_w.1) (c6 _ gx_copy_w.2.1) (c6 _ gx_copy_w.2.2) c8 hP hD hS src dst 0 0 (gx_w_get (gx_ar_spec h0)) (gx_w_get g1) rfl rfl rfl (nI_pos p1) (nI_pos p2) (nI_pos p3) (by rw [nI_clamp p1, nI_clamp p3]; exact b1) (by rw [nI_clamp p2, nI_clamp p3]; exact b2) (fun _ _ => rfl) (Nat.le_trans hdd c10) hloc hd ?_
  rw [nI_clamp p1, nI_clamp p2, nI_clamp p3, hset]
  exact fun H1 locs1 a b e9 => kk p l e R s m args below meth c ad cT D A ⟨c1, c2, c3, c4, c5, c6, c7, c8, c9, c10, c11, c12, c13⟩ H1 locs1 ls a b e9 hl'
/-- the table of orders: its length, one of its places -/
theorem ev_ordlen {o2 : Nat} (hd : decode M.2.1 pc = .ok (.getstatic idx, 3)) (hd2 : decode M.2.1 (pc + 3) = .ok (.arraylength, 1)) (hk : Cond.fieldLink M.1.cls idx "GlassTax$Chances" "ORDERS_OF" "[I" ∈ gw_tbl) (kk : Ev M d (pc + 3 + 1) loc (.int 5 :: st) S L Q) : Ev M d pc loc st S L Q := by
  intro p l e R s m args below meth c ad cT D A C H locs ls hP hD hS hl'
  have k1 := kk p l e R s m args below meth c ad cT D A C H locs ls hP hD hS hl'
  obtain ⟨c1, c2, c3, c4, c5, c6, c7, c8, c9, c10, c11, c12, c13⟩ := C
  obtain ⟨t, z1, z2⟩ := c9
  refine va_gets c1 c2 z1 hS c5 (c6 _ hk) (fun _ h9 => h9) hd ?_
  exact va_tlen c1 c2 z2 hS (v := 5) (by decide) hd2 k1
theorem ev_ordat {x : Int32} {j pc2 : Nat} (hd : decode M.2.1 pc = .ok (.getstatic idx, 3)) (hd1 : decode M.2.1 (pc + 3) = .ok (.iload_n 0, 1)) (hd2 : decode M.2.1 (pc + 3 + 1) = .ok (.iaload, 1)) (hk : Cond.fieldLink M.1.cls idx "GlassTax$Chances" "ORDERS_OF" "[I" ∈ gw_tbl) (hl : loc[0]? = some (some (.int x))) (hx : x = nI j) (hj : j < 5) (kk : Ev M d (pc + 3 + 1 + 1) loc (.int (gx_ord j) :: st) S L Q) : Ev M d pc loc st S L Q := by
  intro p l e R s m args below meth c ad cT D A C H locs ls hP hD hS hl'
  have k1 := kk p l e R s m args below meth c ad cT D A C H locs ls hP hD hS hl'
  obtain ⟨c1, c2, c3, c4, c5, c6, c7, c8, c9, c10, c11, c12, c13⟩ := C
  obtain ⟨t, z1, z2⟩ := c9
  subst hx
  refine va_gets c1 c2 z1 hS c5 (c6 _ hk) (fun _ h9 => h9) hd ?_
  refine lv_iload_n c1 c2 hd1 rfl (hl'.2.2.2 _ _ hl) ?_
  exact va_ti c1 c2 z2 hS (vp_in_nI hj (by decide)) (v := .int (gx_ord j)) (by rw [nI_clamp (by omega)]) hd2 k1
end GXW
end
section
theorem gw_sub (ws : List Cond) (ps : List Nat) (hp : ws = ps.filterMap (fun i => lw_tbl[i]?)) (hg : ws.all goodWord = true) : ∀ w ∈ ws, w ∈ gw_tbl := by
  intro w hw
  have h1 := List.all_eq_true.mp hg w hw
  rw [hp] at hw
  obtain ⟨i, -, hi⟩ := List.mem_filterMap.mp hw
  exact gw_in i hi h1
theorem inX0 : ∀ w ∈ u_ws RX0 TX0 3, w ∈ gw_tbl := gw_sub _ [213, 215, 217] (by decide +kernel) (by decide +kernel)
theorem inX1 : ∀ w ∈ u_ws RX1 TX1 3, w ∈ gw_tbl := gw_sub _ [281, 283, 285] (by decide +kernel) (by decide +kernel)
theorem inX2 : ∀ w ∈ u_ws RX2 TX2 8, w ∈ gw_tbl := gw_sub _ [137, 139, 141, 143, 145, 147, 149, 151] (by decide +kernel) (by decide +kernel)
theorem inX3 : ∀ w ∈ u_ws RX3 TX3 2, w ∈ gw_tbl := gw_sub _ [82, 84] (by decide +kernel) (by decide +kernel)
theorem inX4 : ∀ w ∈ u_ws RX4 TX4 6, w ∈ gw_tbl := gw_sub _ [302, 304, 306, 308, 310, 312] (by decide +kernel) (by decide +kernel)
theorem inX5 : ∀ w ∈ u_ws RX5 TX5 3, w ∈ gw_tbl := gw_sub _ [97, 99, 101] (by decide +kernel) (by decide +kernel)
theorem inX6 : ∀ w ∈ u_ws RX6 TX6 7, w ∈ gw_tbl := gw_sub _ [257, 259, 261, 263, 265, 267, 269] (by decide +kernel) (by decide +kernel)
theorem inX7 : ∀ w ∈ u_ws RX7 TX7 4, w ∈ gw_tbl := gw_sub _ [233, 235, 237, 239] (by decide +kernel) (by decide +kernel)
theorem inX8 : ∀ w ∈ u_ws RX8 TX8 2, w ∈ gw_tbl := gw_sub _ [204, 206] (by decide +kernel) (by decide +kernel)
theorem inX9 : ∀ w ∈ u_ws RX9 TX9 5, w ∈ gw_tbl := gw_sub _ [176, 178, 180, 182, 184] (by decide +kernel) (by decide +kernel)
theorem inX10 : ∀ w ∈ u_ws RX10 TX10 15, w ∈ gw_tbl := gw_sub _ [330, 332, 334, 336, 338, 340, 342, 344, 346, 348, 350, 352, 354, 356, 358] (by decide +kernel) (by decide +kernel)
theorem inX11 : ∀ w ∈ u_ws RX11 TX11 26, w ∈ gw_tbl := gw_sub _ [848, 850, 852, 854, 856, 858, 860, 862, 864, 866, 868, 870, 872, 874, 876, 878, 880, 882, 884, 886, 888, 890, 892, 894, 896, 898] (by decide +kernel) (by decide +kernel)
theorem lk_X0_11 : gx_Lk RX0 11 yX8_init := Or.inl (gw_in 195 (by decide +kernel) (by decide +kernel))
theorem fl_X0_14 : gx_FL RX0 14 0 0 := ⟨RX0, TX0, 3, rfl, by decide, inX0, Or.inl (gw_in 209 (by decide +kernel) (by decide +kernel))⟩
theorem fl_X0_20 : gx_FL RX0 20 0 1 := ⟨RX0, TX0, 3, rfl, by decide, inX0, Or.inl (gw_in 210 (by decide +kernel) (by decide +kernel))⟩
theorem lk_X0_24 : gx_Lk RX0 24 yX8_lay := Or.inl (gw_in 515 (by decide +kernel) (by decide +kernel))
theorem fp_X0_20 : gx_FP RX0 20 0 1 .int := ⟨RX0, TX0, 3, tyX0, rfl, by decide, inX0, Or.inl (gw_in 210 (by decide +kernel) (by decide +kernel)), tyX0_ok, nmX0, rfl, by decide +kernel⟩
theorem fl_X0_28 : gx_FL RX0 28 0 2 := ⟨RX0, TX0, 3, rfl, by decide, inX0, Or.inl (gw_in 211 (by decide +kernel) (by decide +kernel))⟩
theorem lk_X0_31 : Cond.methodLink RX0 31 Lib.Math.min.name ∈ gw_tbl := gw_in 520 (by decide +kernel) (by decide +kernel)
theorem fp_X0_28 : gx_FP RX0 28 0 2 .int := ⟨RX0, TX0, 3, tyX0, rfl, by decide, inX0, Or.inl (gw_in 211 (by decide +kernel) (by decide +kernel)), tyX0_ok, nmX0, rfl, by decide +kernel⟩
theorem lk_X0_37 : gx_Lk RX0 37 yX8_fetch := Or.inl (gw_in 567 (by decide +kernel) (by decide +kernel))
theorem fl_X1_9 : gx_FL RX1 9 1 0 := ⟨RX1, TX1, 3, rfl, by decide, inX1, Or.inl (gw_in 278 (by decide +kernel) (by decide +kernel))⟩
theorem fl_X1_22 : gx_FL RX1 22 2 1 := ⟨RX2, TX2, 8, rfl, by decide, inX2, Or.inr ⟨"GlassTax", gn_in 115 (by decide +kernel) (by decide +kernel)⟩⟩
theorem lk_X1_28 : gx_Lk RX1 28 yX10_hasBit := Or.inr ⟨"GlassTax", gn_in 721 (by decide +kernel) (by decide +kernel)⟩
theorem lk_X1_32 : gx_Lk RX1 32 yX1_taxesOf := Or.inl (gw_in 722 (by decide +kernel) (by decide +kernel))
theorem lk_X1_36 : gx_Lk RX1 36 yJ6_bitCount_0f7a4 := Or.inl (gw_in 729 (by decide +kernel) (by decide +kernel))
theorem lk_X1_41 : gx_Lk RX1 41 yX1_ordersWith := Or.inl (gw_in 730 (by decide +kernel) (by decide +kernel))
theorem lk_X1_44 : gx_Lk RX1 44 yX1_orders := Or.inl (gw_in 734 (by decide +kernel) (by decide +kernel))
theorem lk_X1_47 : gx_Lk RX1 47 yX10_fractionSide := Or.inr ⟨"GlassTax", gn_in 739 (by decide +kernel) (by decide +kernel)⟩
theorem fs_X1_51 : Cond.fieldLink RX1 51 "GlassTax$Chances" "ORDERS_OF" "[I" ∈ gw_tbl := gw_in 737 (by decide +kernel) (by decide +kernel)
theorem fl_X1_19 : gx_FL RX1 19 1 2 := ⟨RX1, TX1, 3, rfl, by decide, inX1, Or.inl (gw_in 280 (by decide +kernel) (by decide +kernel))⟩
theorem fl_X1_15 : gx_FL RX1 15 1 1 := ⟨RX1, TX1, 3, rfl, by decide, inX1, Or.inl (gw_in 279 (by decide +kernel) (by decide +kernel))⟩
theorem lk_X1_55 : gx_Lk RX1 55 yX9_copyFrom := Or.inl (gw_in 726 (by decide +kernel) (by decide +kernel))
theorem lk_X1_61 : gx_Lk RX1 61 yX9_passEvening := Or.inl (gw_in 727 (by decide +kernel) (by decide +kernel))
theorem lk_X1_65 : gx_Lk RX1 65 yX9_taxes := Or.inl (gw_in 728 (by decide +kernel) (by decide +kernel))
theorem fl_X1_69 : gx_FL RX1 69 9 1 := ⟨RX9, TX9, 5, rfl, by decide, inX9, Or.inr ⟨"GlassTax", gn_in 164 (by decide +kernel) (by decide +kernel)⟩⟩
theorem lk_X1_72 : gx_Lk RX1 72 yX1_taxesByLeaks := Or.inl (gw_in 779 (by decide +kernel) (by decide +kernel))
theorem lk_X1_75 : gx_Lk RX1 75 yX1_weightOf := Or.inl (gw_in 783 (by decide +kernel) (by decide +kernel))
theorem fp_X2_30 : gx_FP RX2 30 2 0 .int := ⟨RX2, TX2, 8, tyX2, rfl, by decide, inX2, Or.inl (gw_in 110 (by decide +kernel) (by decide +kernel)), tyX2_ok, nmX2, rfl, by decide +kernel⟩
theorem fp_X2_34 : gx_FP RX2 34 2 1 .int := ⟨RX2, TX2, 8, tyX2, rfl, by decide, inX2, Or.inl (gw_in 114 (by decide +kernel) (by decide +kernel)), tyX2_ok, nmX2, rfl, by decide +kernel⟩
theorem fl_X2_9 : gx_FL RX2 9 2 2 := ⟨RX2, TX2, 8, rfl, by decide, inX2, Or.inl (gw_in 119 (by decide +kernel) (by decide +kernel))⟩
theorem fl_X2_15 : gx_FL RX2 15 2 3 := ⟨RX2, TX2, 8, rfl, by decide, inX2, Or.inl (gw_in 122 (by decide +kernel) (by decide +kernel))⟩
theorem fl_X2_18 : gx_FL RX2 18 2 4 := ⟨RX2, TX2, 8, rfl, by decide, inX2, Or.inl (gw_in 124 (by decide +kernel) (by decide +kernel))⟩
theorem fl_X2_21 : gx_FL RX2 21 2 5 := ⟨RX2, TX2, 8, rfl, by decide, inX2, Or.inl (gw_in 127 (by decide +kernel) (by decide +kernel))⟩
theorem fl_X2_24 : gx_FL RX2 24 2 6 := ⟨RX2, TX2, 8, rfl, by decide, inX2, Or.inl (gw_in 129 (by decide +kernel) (by decide +kernel))⟩
theorem fl_X2_27 : gx_FL RX2 27 2 7 := ⟨RX2, TX2, 8, rfl, by decide, inX2, Or.inl (gw_in 133 (by decide +kernel) (by decide +kernel))⟩
theorem fl_X2_30 : gx_FL RX2 30 2 0 := ⟨RX2, TX2, 8, rfl, by decide, inX2, Or.inl (gw_in 110 (by decide +kernel) (by decide +kernel))⟩
theorem fl_X2_34 : gx_FL RX2 34 2 1 := ⟨RX2, TX2, 8, rfl, by decide, inX2, Or.inl (gw_in 114 (by decide +kernel) (by decide +kernel))⟩
theorem lk_X2_37 : Cond.methodLink RX2 37 arraycopyName ∈ gw_tbl := gw_in 442 (by decide +kernel) (by decide +kernel)
theorem lk_X2_43 : gx_Lk RX2 43 yX2_hasDrinker := Or.inl (gw_in 401 (by decide +kernel) (by decide +kernel))
theorem lk_X2_47 : gx_Lk RX2 47 yX2_hasGlass := Or.inl (gw_in 471 (by decide +kernel) (by decide +kernel))
theorem lk_X2_50 : gx_Lk RX2 50 yX10_hasBit := Or.inr ⟨"GlassTax", gn_in 472 (by decide +kernel) (by decide +kernel)⟩
theorem lk_X2_54 : gx_Lk RX2 54 yX2_canSit := Or.inl (gw_in 397 (by decide +kernel) (by decide +kernel))
theorem lk_X2_57 : gx_Lk RX2 57 yX2_sits := Or.inl (gw_in 467 (by decide +kernel) (by decide +kernel))
theorem fl_X3_15 : gx_FL RX3 15 3 1 := ⟨RX3, TX3, 2, rfl, by decide, inX3, Or.inl (gw_in 79 (by decide +kernel) (by decide +kernel))⟩
theorem fl_X3_9 : gx_FL RX3 9 3 0 := ⟨RX3, TX3, 2, rfl, by decide, inX3, Or.inl (gw_in 77 (by decide +kernel) (by decide +kernel))⟩
theorem fp_X3_15 : gx_FP RX3 15 3 1 .int := ⟨RX3, TX3, 2, tyX3, rfl, by decide, inX3, Or.inl (gw_in 79 (by decide +kernel) (by decide +kernel)), tyX3_ok, nmX3, rfl, by decide +kernel⟩
theorem fp_X4_19 : gx_FP RX4 19 4 2 .int := ⟨RX4, TX4, 6, tyX4, rfl, by decide, inX4, Or.inl (gw_in 296 (by decide +kernel) (by decide +kernel)), tyX4_ok, nmX4, rfl, by decide +kernel⟩
theorem fp_X4_23 : gx_FP RX4 23 4 3 .int := ⟨RX4, TX4, 6, tyX4, rfl, by decide, inX4, Or.inl (gw_in 297 (by decide +kernel) (by decide +kernel)), tyX4_ok, nmX4, rfl, by decide +kernel⟩
theorem fp_X4_26 : gx_FP RX4 26 4 4 .int := ⟨RX4, TX4, 6, tyX4, rfl, by decide, inX4, Or.inl (gw_in 298 (by decide +kernel) (by decide +kernel)), tyX4_ok, nmX4, rfl, by decide +kernel⟩
theorem fp_X4_29 : gx_FP RX4 29 4 5 .int := ⟨RX4, TX4, 6, tyX4, rfl, by decide, inX4, Or.inl (gw_in 300 (by decide +kernel) (by decide +kernel)), tyX4_ok, nmX4, rfl, by decide +kernel⟩
theorem fl_X4_9 : gx_FL RX4 9 4 0 := ⟨RX4, TX4, 6, rfl, by decide, inX4, Or.inl (gw_in 294 (by decide +kernel) (by decide +kernel))⟩
theorem fl_X4_19 : gx_FL RX4 19 4 2 := ⟨RX4, TX4, 6, rfl, by decide, inX4, Or.inl (gw_in 296 (by decide +kernel) (by decide +kernel))⟩
theorem lk_X4_32 : gx_Lk RX4 32 yX2_sits := Or.inl (gw_in 757 (by decide +kernel) (by decide +kernel))
theorem fl_X4_23 : gx_FL RX4 23 4 3 := ⟨RX4, TX4, 6, rfl, by decide, inX4, Or.inl (gw_in 297 (by decide +kernel) (by decide +kernel))⟩
theorem lk_X4_38 : gx_Lk RX4 38 yX4_isRest := Or.inl (gw_in 758 (by decide +kernel) (by decide +kernel))
theorem fl_X4_26 : gx_FL RX4 26 4 4 := ⟨RX4, TX4, 6, rfl, by decide, inX4, Or.inl (gw_in 298 (by decide +kernel) (by decide +kernel))⟩
theorem fl_X4_29 : gx_FL RX4 29 4 5 := ⟨RX4, TX4, 6, rfl, by decide, inX4, Or.inl (gw_in 300 (by decide +kernel) (by decide +kernel))⟩
theorem lk_X4_41 : gx_Lk RX4 41 yX4_oneHas := Or.inl (gw_in 762 (by decide +kernel) (by decide +kernel))
theorem lk_X4_45 : gx_Lk RX4 45 yX4_otherHas := Or.inl (gw_in 767 (by decide +kernel) (by decide +kernel))
theorem fl_X4_48 : gx_FL RX4 48 2 6 := ⟨RX2, TX2, 8, rfl, by decide, inX2, Or.inr ⟨"GlassTax", gn_in 130 (by decide +kernel) (by decide +kernel)⟩⟩
theorem fl_X4_15 : gx_FL RX4 15 4 1 := ⟨RX4, TX4, 6, rfl, by decide, inX4, Or.inl (gw_in 295 (by decide +kernel) (by decide +kernel))⟩
theorem fl_X4_52 : gx_FL RX4 52 9 3 := ⟨RX9, TX9, 5, rfl, by decide, inX9, Or.inr ⟨"GlassTax", gn_in 171 (by decide +kernel) (by decide +kernel)⟩⟩
theorem fl_X4_57 : gx_FL RX4 57 9 1 := ⟨RX9, TX9, 5, rfl, by decide, inX9, Or.inr ⟨"GlassTax", gn_in 163 (by decide +kernel) (by decide +kernel)⟩⟩
theorem lk_X4_60 : gx_Lk RX4 60 yX10_gulp := Or.inr ⟨"GlassTax", gn_in 766 (by decide +kernel) (by decide +kernel)⟩
theorem lk_X5_9 : gx_Lk RX5 9 yX2_clear := Or.inl (gw_in 381 (by decide +kernel) (by decide +kernel))
theorem fp_X5_16 : gx_FP RX5 16 5 0 .int := ⟨RX5, TX5, 3, tyX5, rfl, by decide, inX5, Or.inl (gw_in 94 (by decide +kernel) (by decide +kernel)), tyX5_ok, nmX5, rfl, by decide +kernel⟩
theorem fl_X5_20 : gx_FL RX5 20 3 1 := ⟨RX3, TX3, 2, rfl, by decide, inX3, Or.inr ⟨"GlassTax", gn_in 80 (by decide +kernel) (by decide +kernel)⟩⟩
theorem fl_X5_25 : gx_FL RX5 25 3 0 := ⟨RX3, TX3, 2, rfl, by decide, inX3, Or.inr ⟨"GlassTax", gn_in 78 (by decide +kernel) (by decide +kernel)⟩⟩
theorem lk_X5_29 : gx_Lk RX5 29 yX5_takes := Or.inl (gw_in 385 (by decide +kernel) (by decide +kernel))
theorem fl_X5_16 : gx_FL RX5 16 5 0 := ⟨RX5, TX5, 3, rfl, by decide, inX5, Or.inl (gw_in 94 (by decide +kernel) (by decide +kernel))⟩
theorem lk_X5_33 : gx_Lk RX5 33 yX5_takesPart := Or.inl (gw_in 389 (by decide +kernel) (by decide +kernel))
theorem lk_X5_36 : gx_Lk RX5 36 yX5_takesFigure := Or.inl (gw_in 405 (by decide +kernel) (by decide +kernel))
theorem fl_X5_39 : gx_FL RX5 39 2 0 := ⟨RX2, TX2, 8, rfl, by decide, inX2, Or.inr ⟨"GlassTax", gn_in 112 (by decide +kernel) (by decide +kernel)⟩⟩
theorem fl_X5_42 : gx_FL RX5 42 2 1 := ⟨RX2, TX2, 8, rfl, by decide, inX2, Or.inr ⟨"GlassTax", gn_in 116 (by decide +kernel) (by decide +kernel)⟩⟩
theorem lk_X5_45 : gx_Lk RX5 45 yX2_anyCanSit := Or.inl (gw_in 393 (by decide +kernel) (by decide +kernel))
theorem fp_X5_49 : gx_FP RX5 49 5 1 .int := ⟨RX5, TX5, 3, tyX5, rfl, by decide, inX5, Or.inl (gw_in 95 (by decide +kernel) (by decide +kernel)), tyX5_ok, nmX5, rfl, by decide +kernel⟩
theorem fp_X5_52 : gx_FP RX5 52 5 2 .int := ⟨RX5, TX5, 3, tyX5, rfl, by decide, inX5, Or.inl (gw_in 96 (by decide +kernel) (by decide +kernel)), tyX5_ok, nmX5, rfl, by decide +kernel⟩
theorem fl_X5_49 : gx_FL RX5 49 5 1 := ⟨RX5, TX5, 3, rfl, by decide, inX5, Or.inl (gw_in 95 (by decide +kernel) (by decide +kernel))⟩
theorem lk_X5_55 : gx_Lk RX5 55 yX2_canSit := Or.inl (gw_in 409 (by decide +kernel) (by decide +kernel))
theorem lk_X5_59 : gx_Lk RX5 59 yX5_endsPart := Or.inl (gw_in 410 (by decide +kernel) (by decide +kernel))
theorem lk_X5_62 : gx_Lk RX5 62 yX5_takesSeat := Or.inl (gw_in 414 (by decide +kernel) (by decide +kernel))
theorem fl_X5_52 : gx_FL RX5 52 5 2 := ⟨RX5, TX5, 3, rfl, by decide, inX5, Or.inl (gw_in 96 (by decide +kernel) (by decide +kernel))⟩
theorem lk_X5_65 : gx_Lk RX5 65 yX2_addGlass := Or.inl (gw_in 426 (by decide +kernel) (by decide +kernel))
theorem lk_X5_69 : gx_Lk RX5 69 yX2_addDrinker := Or.inl (gw_in 430 (by decide +kernel) (by decide +kernel))
theorem lk_X5_73 : gx_Lk RX5 73 yX2_hasDrinker := Or.inl (gw_in 418 (by decide +kernel) (by decide +kernel))
theorem lk_X5_76 : gx_Lk RX5 76 yX2_hasGlass := Or.inl (gw_in 419 (by decide +kernel) (by decide +kernel))
theorem fl_X5_79 : gx_FL RX5 79 2 7 := ⟨RX2, TX2, 8, rfl, by decide, inX2, Or.inr ⟨"GlassTax", gn_in 134 (by decide +kernel) (by decide +kernel)⟩⟩
theorem lk_X5_82 : gx_Lk RX5 82 yX10_hasBit := Or.inr ⟨"GlassTax", gn_in 423 (by decide +kernel) (by decide +kernel)⟩
theorem fp_X6_29 : gx_FP RX6 29 6 5 .int := ⟨RX6, TX6, 7, tyX6, rfl, by decide, inX6, Or.inl (gw_in 253 (by decide +kernel) (by decide +kernel)), tyX6_ok, nmX6, rfl, by decide +kernel⟩
theorem fp_X6_33 : gx_FP RX6 33 6 6 .int := ⟨RX6, TX6, 7, tyX6, rfl, by decide, inX6, Or.inl (gw_in 255 (by decide +kernel) (by decide +kernel)), tyX6_ok, nmX6, rfl, by decide +kernel⟩
theorem fl_X6_18 : gx_FL RX6 18 6 0 := ⟨RX6, TX6, 7, rfl, by decide, inX6, Or.inl (gw_in 248 (by decide +kernel) (by decide +kernel))⟩
theorem lk_X6_36 : gx_Lk RX6 36 yX2_hasGlass := Or.inl (gw_in 605 (by decide +kernel) (by decide +kernel))
theorem lk_X6_42 : gx_Lk RX6 42 yX6_weighPours := Or.inl (gw_in 606 (by decide +kernel) (by decide +kernel))
theorem lk_X6_46 : gx_Lk RX6 46 yX6_roomBehind := Or.inl (gw_in 618 (by decide +kernel) (by decide +kernel))
theorem lk_X6_50 : Cond.methodLink RX6 50 Lib.Math.max.name ∈ gw_tbl := gw_in 623 (by decide +kernel) (by decide +kernel)
theorem fl_X6_22 : gx_FL RX6 22 6 1 := ⟨RX6, TX6, 7, rfl, by decide, inX6, Or.inl (gw_in 249 (by decide +kernel) (by decide +kernel))⟩
theorem lk_X6_56 : gx_Lk RX6 56 yX9_roomIn := Or.inl (gw_in 622 (by decide +kernel) (by decide +kernel))
theorem lk_X6_61 : Cond.methodLink RX6 61 Lib.Math.min.name ∈ gw_tbl := gw_in 624 (by decide +kernel) (by decide +kernel)
theorem fl_X6_9 : gx_FL RX6 9 6 3 := ⟨RX6, TX6, 7, rfl, by decide, inX6, Or.inl (gw_in 251 (by decide +kernel) (by decide +kernel))⟩
theorem lk_X6_64 : gx_Lk RX6 64 yX6_tryPours := Or.inl (gw_in 625 (by decide +kernel) (by decide +kernel))
theorem fl_X6_68 : gx_FL RX6 68 2 0 := ⟨RX2, TX2, 8, rfl, by decide, inX2, Or.inr ⟨"GlassTax", gn_in 111 (by decide +kernel) (by decide +kernel)⟩⟩
theorem fl_X6_26 : gx_FL RX6 26 6 2 := ⟨RX6, TX6, 7, rfl, by decide, inX6, Or.inl (gw_in 250 (by decide +kernel) (by decide +kernel))⟩
theorem lk_X6_71 : gx_Lk RX6 71 yX9_copyFrom := Or.inl (gw_in 610 (by decide +kernel) (by decide +kernel))
theorem lk_X6_75 : gx_Lk RX6 75 yX9_pourInto := Or.inl (gw_in 611 (by decide +kernel) (by decide +kernel))
theorem lk_X6_78 : gx_Lk RX6 78 yX9_passEvening := Or.inl (gw_in 612 (by decide +kernel) (by decide +kernel))
theorem lk_X6_81 : gx_Lk RX6 81 yX9_taxes := Or.inl (gw_in 613 (by decide +kernel) (by decide +kernel))
theorem lk_X6_85 : gx_Lk RX6 85 yX6_keepLess := Or.inl (gw_in 614 (by decide +kernel) (by decide +kernel))
theorem fl_X6_33 : gx_FL RX6 33 6 6 := ⟨RX6, TX6, 7, rfl, by decide, inX6, Or.inl (gw_in 255 (by decide +kernel) (by decide +kernel))⟩
theorem fl_X6_29 : gx_FL RX6 29 6 5 := ⟨RX6, TX6, 7, rfl, by decide, inX6, Or.inl (gw_in 253 (by decide +kernel) (by decide +kernel))⟩
theorem lk_X6_89 : gx_Lk RX6 89 yJ6_bitCount_0f7a4 := Or.inl (gw_in 634 (by decide +kernel) (by decide +kernel))
theorem lk_X6_94 : gx_Lk RX6 94 yX6_isEnough := Or.inl (gw_in 640 (by decide +kernel) (by decide +kernel))
theorem lk_X6_97 : gx_Lk RX6 97 yX9_fillOnly := Or.inl (gw_in 644 (by decide +kernel) (by decide +kernel))
theorem lk_X6_100 : gx_Lk RX6 100 yX9_isQuenched := Or.inl (gw_in 648 (by decide +kernel) (by decide +kernel))
theorem fl_X6_104 : gx_FL RX6 104 2 1 := ⟨RX2, TX2, 8, rfl, by decide, inX2, Or.inr ⟨"GlassTax", gn_in 118 (by decide +kernel) (by decide +kernel)⟩⟩
theorem lk_X6_107 : gx_Lk RX6 107 yX6_weighTurns := Or.inl (gw_in 660 (by decide +kernel) (by decide +kernel))
theorem lk_X6_110 : gx_Lk RX6 110 yX10_hasBit := Or.inr ⟨"GlassTax", gn_in 666 (by decide +kernel) (by decide +kernel)⟩
theorem fl_X6_15 : gx_FL RX6 15 6 4 := ⟨RX6, TX6, 7, rfl, by decide, inX6, Or.inl (gw_in 252 (by decide +kernel) (by decide +kernel))⟩
theorem lk_X6_114 : gx_Lk RX6 114 yX6_tryTurns := Or.inl (gw_in 667 (by decide +kernel) (by decide +kernel))
theorem lk_X6_117 : gx_Lk RX6 117 yX9_drinkAround := Or.inl (gw_in 664 (by decide +kernel) (by decide +kernel))
theorem lk_X6_120 : gx_Lk RX6 120 yX9_thirstOfAll := Or.inl (gw_in 665 (by decide +kernel) (by decide +kernel))
theorem fl_X7_21 : gx_FL RX7 21 7 3 := ⟨RX7, TX7, 4, rfl, by decide, inX7, Or.inl (gw_in 231 (by decide +kernel) (by decide +kernel))⟩
theorem fl_X7_9 : gx_FL RX7 9 7 0 := ⟨RX7, TX7, 4, rfl, by decide, inX7, Or.inl (gw_in 228 (by decide +kernel) (by decide +kernel))⟩
theorem fl_X7_15 : gx_FL RX7 15 7 1 := ⟨RX7, TX7, 4, rfl, by decide, inX7, Or.inl (gw_in 229 (by decide +kernel) (by decide +kernel))⟩
theorem fl_X7_18 : gx_FL RX7 18 7 2 := ⟨RX7, TX7, 4, rfl, by decide, inX7, Or.inl (gw_in 230 (by decide +kernel) (by decide +kernel))⟩
theorem fp_X7_21 : gx_FP RX7 21 7 3 .int := ⟨RX7, TX7, 4, tyX7, rfl, by decide, inX7, Or.inl (gw_in 231 (by decide +kernel) (by decide +kernel)), tyX7_ok, nmX7, rfl, by decide +kernel⟩
theorem lk_X7_25 : gx_Lk RX7 25 yX7_fits := Or.inl (gw_in 708 (by decide +kernel) (by decide +kernel))
theorem lk_X7_29 : gx_Lk RX7 29 yX10_gulp := Or.inr ⟨"GlassTax", gn_in 712 (by decide +kernel) (by decide +kernel)⟩
theorem lk_X8_9 : Cond.methodLink RX8 9 Lib.Math.max.name ∈ gw_tbl := gw_in 199 (by decide +kernel) (by decide +kernel)
theorem fl_X8_15 : gx_FL RX8 15 8 0 := ⟨RX8, TX8, 2, rfl, by decide, inX8, Or.inl (gw_in 202 (by decide +kernel) (by decide +kernel))⟩
theorem fl_X8_25 : gx_FL RX8 25 9 1 := ⟨RX9, TX9, 5, rfl, by decide, inX9, Or.inr ⟨"GlassTax", gn_in 162 (by decide +kernel) (by decide +kernel)⟩⟩
theorem fl_X8_21 : gx_FL RX8 21 8 1 := ⟨RX8, TX8, 2, rfl, by decide, inX8, Or.inl (gw_in 203 (by decide +kernel) (by decide +kernel))⟩
theorem lk_X8_30 : Cond.methodLink RX8 30 arraycopyName ∈ gw_tbl := gw_in 519 (by decide +kernel) (by decide +kernel)
theorem fl_X8_36 : gx_FL RX8 36 9 2 := ⟨RX9, TX9, 5, rfl, by decide, inX9, Or.inr ⟨"GlassTax", gn_in 167 (by decide +kernel) (by decide +kernel)⟩⟩
theorem fl_X8_39 : gx_FL RX8 39 9 3 := ⟨RX9, TX9, 5, rfl, by decide, inX9, Or.inr ⟨"GlassTax", gn_in 170 (by decide +kernel) (by decide +kernel)⟩⟩
theorem fl_X8_42 : gx_FL RX8 42 9 4 := ⟨RX9, TX9, 5, rfl, by decide, inX9, Or.inr ⟨"GlassTax", gn_in 174 (by decide +kernel) (by decide +kernel)⟩⟩
theorem fp_X8_42 : gx_FP RX8 42 9 4 .int := ⟨RX9, TX9, 5, tyX9, rfl, by decide, inX9, Or.inr ⟨"GlassTax", gn_in 174 (by decide +kernel) (by decide +kernel)⟩, tyX9_ok, nmX9, rfl, by decide +kernel⟩
theorem fl_X9_9 : gx_FL RX9 9 9 1 := ⟨RX9, TX9, 5, rfl, by decide, inX9, Or.inl (gw_in 161 (by decide +kernel) (by decide +kernel))⟩
theorem lk_X9_25 : Cond.methodLink RX9 25 arraycopyName ∈ gw_tbl := gw_in 494 (by decide +kernel) (by decide +kernel)
theorem fl_X9_15 : gx_FL RX9 15 9 2 := ⟨RX9, TX9, 5, rfl, by decide, inX9, Or.inl (gw_in 166 (by decide +kernel) (by decide +kernel))⟩
theorem fl_X9_18 : gx_FL RX9 18 9 3 := ⟨RX9, TX9, 5, rfl, by decide, inX9, Or.inl (gw_in 169 (by decide +kernel) (by decide +kernel))⟩
theorem fl_X9_31 : gx_FL RX9 31 9 4 := ⟨RX9, TX9, 5, rfl, by decide, inX9, Or.inl (gw_in 173 (by decide +kernel) (by decide +kernel))⟩
theorem fp_X9_31 : gx_FP RX9 31 9 4 .int := ⟨RX9, TX9, 5, tyX9, rfl, by decide, inX9, Or.inl (gw_in 173 (by decide +kernel) (by decide +kernel)), tyX9_ok, nmX9, rfl, by decide +kernel⟩
theorem fl_X9_21 : gx_FL RX9 21 9 0 := ⟨RX9, TX9, 5, rfl, by decide, inX9, Or.inl (gw_in 160 (by decide +kernel) (by decide +kernel))⟩
theorem fl_X9_35 : gx_FL RX9 35 2 3 := ⟨RX2, TX2, 8, rfl, by decide, inX2, Or.inr ⟨"GlassTax", gn_in 123 (by decide +kernel) (by decide +kernel)⟩⟩
theorem fl_X9_40 : gx_FL RX9 40 2 5 := ⟨RX2, TX2, 8, rfl, by decide, inX2, Or.inr ⟨"GlassTax", gn_in 128 (by decide +kernel) (by decide +kernel)⟩⟩
theorem fl_X9_43 : gx_FL RX9 43 2 4 := ⟨RX2, TX2, 8, rfl, by decide, inX2, Or.inr ⟨"GlassTax", gn_in 125 (by decide +kernel) (by decide +kernel)⟩⟩
theorem lk_X9_46 : Cond.methodLink RX9 46 Lib.Math.max.name ∈ gw_tbl := gw_in 462 (by decide +kernel) (by decide +kernel)
theorem fl_X9_52 : gx_FL RX9 52 2 2 := ⟨RX2, TX2, 8, rfl, by decide, inX2, Or.inr ⟨"GlassTax", gn_in 120 (by decide +kernel) (by decide +kernel)⟩⟩
theorem lk_X9_55 : gx_Lk RX9 55 yX9_taxOf := Or.inl (gw_in 558 (by decide +kernel) (by decide +kernel))
theorem lk_X9_59 : gx_Lk RX9 59 yX2_sits := Or.inl (gw_in 482 (by decide +kernel) (by decide +kernel))
theorem fl_X9_63 : gx_FL RX9 63 2 6 := ⟨RX2, TX2, 8, rfl, by decide, inX2, Or.inr ⟨"GlassTax", gn_in 132 (by decide +kernel) (by decide +kernel)⟩⟩
theorem lk_X9_66 : gx_Lk RX9 66 yX10_gulp := Or.inr ⟨"GlassTax", gn_in 483 (by decide +kernel) (by decide +kernel)⟩
theorem lk_X9_70 : gx_Lk RX9 70 yX2_hasGlass := Or.inl (gw_in 499 (by decide +kernel) (by decide +kernel))
theorem lk_X9_74 : gx_Lk RX9 74 yX9_roomIn := Or.inl (gw_in 500 (by decide +kernel) (by decide +kernel))
theorem lk_X9_77 : Cond.methodLink RX9 77 Lib.Math.min.name ∈ gw_tbl := gw_in 504 (by decide +kernel) (by decide +kernel)
theorem lk_X9_80 : gx_Lk RX9 80 yX2_hasDrinker := Or.inl (gw_in 529 (by decide +kernel) (by decide +kernel))
theorem lk_X9_83 : gx_Lk RX9 83 yX9_swallow := Or.inl (gw_in 530 (by decide +kernel) (by decide +kernel))
theorem lk_X9_86 : gx_Lk RX9 86 yX9_ageByHour := Or.inl (gw_in 550 (by decide +kernel) (by decide +kernel))
theorem lk_X9_90 : gx_Lk RX9 90 yX9_taxes := Or.inl (gw_in 554 (by decide +kernel) (by decide +kernel))
theorem lk_X9_94 : gx_Lk RX9 94 yX9_pourInto := Or.inl (gw_in 684 (by decide +kernel) (by decide +kernel))
theorem lk_X9_97 : gx_Lk RX9 97 yX9_drinkAt := Or.inl (gw_in 685 (by decide +kernel) (by decide +kernel))
theorem lk_X9_100 : gx_Lk RX9 100 yX9_tipOver := Or.inl (gw_in 686 (by decide +kernel) (by decide +kernel))
theorem lk_X9_103 : gx_Lk RX9 103 yX9_passHour := Or.inl (gw_in 687 (by decide +kernel) (by decide +kernel))
theorem lk_X9_106 : gx_Lk RX9 106 yX10_hasBit := Or.inr ⟨"GlassTax", gn_in 579 (by decide +kernel) (by decide +kernel)⟩
theorem lk_X9_109 : gx_Lk RX9 109 yX9_drinkAround := Or.inl (gw_in 580 (by decide +kernel) (by decide +kernel))
theorem fl_X9_112 : gx_FL RX9 112 2 7 := ⟨RX2, TX2, 8, rfl, by decide, inX2, Or.inr ⟨"GlassTax", gn_in 136 (by decide +kernel) (by decide +kernel)⟩⟩
theorem lk_X10_11 : gx_Lk RX10 11 yX3_init := Or.inr ⟨"GlassTax", gn_in 73 (by decide +kernel) (by decide +kernel)⟩
theorem lk_X10_18 : gx_Lk RX10 18 yX5_init := Or.inr ⟨"GlassTax", gn_in 90 (by decide +kernel) (by decide +kernel)⟩
theorem lk_X10_25 : gx_Lk RX10 25 yX2_init := Or.inr ⟨"GlassTax", gn_in 106 (by decide +kernel) (by decide +kernel)⟩
theorem fl_X10_30 : gx_FL RX10 30 10 3 := ⟨RX10, TX10, 15, rfl, by decide, inX10, Or.inl (gw_in 318 (by decide +kernel) (by decide +kernel))⟩
theorem lk_X10_35 : gx_Lk RX10 35 yX9_init := Or.inl (gw_in 156 (by decide +kernel) (by decide +kernel))
theorem lk_X10_50 : gx_Lk RX10 50 yX0_init := Or.inr ⟨"GlassTax", gn_in 189 (by decide +kernel) (by decide +kernel)⟩
theorem lk_X10_57 : gx_Lk RX10 57 yX8_init := Or.inl (gw_in 221 (by decide +kernel) (by decide +kernel))
theorem lk_X10_66 : gx_Lk RX10 66 yX7_init := Or.inr ⟨"GlassTax", gn_in 224 (by decide +kernel) (by decide +kernel)⟩
theorem fl_X10_38 : gx_FL RX10 38 10 4 := ⟨RX10, TX10, 15, rfl, by decide, inX10, Or.inl (gw_in 319 (by decide +kernel) (by decide +kernel))⟩
theorem fl_X10_45 : gx_FL RX10 45 10 6 := ⟨RX10, TX10, 15, rfl, by decide, inX10, Or.inl (gw_in 321 (by decide +kernel) (by decide +kernel))⟩
theorem lk_X10_73 : gx_Lk RX10 73 yX6_init := Or.inl (gw_in 244 (by decide +kernel) (by decide +kernel))
theorem lk_X10_82 : gx_Lk RX10 82 yX1_init := Or.inl (gw_in 274 (by decide +kernel) (by decide +kernel))
theorem lk_X10_89 : gx_Lk RX10 89 yX4_init := Or.inl (gw_in 290 (by decide +kernel) (by decide +kernel))
theorem fl_X10_12 : gx_FL RX10 12 10 0 := ⟨RX10, TX10, 15, rfl, by decide, inX10, Or.inl (gw_in 315 (by decide +kernel) (by decide +kernel))⟩
theorem lk_X10_96 : gx_Lk RX10 96 yX3_add := Or.inl (gw_in 365 (by decide +kernel) (by decide +kernel))
theorem fl_X10_100 : gx_FL RX10 100 3 1 := ⟨RX3, TX3, 2, rfl, by decide, inX3, Or.inr ⟨"GlassTax", gn_in 81 (by decide +kernel) (by decide +kernel)⟩⟩
theorem fp_X10_100 : gx_FP RX10 100 3 1 .int := ⟨RX3, TX3, 2, tyX3, rfl, by decide, inX3, Or.inr ⟨"GlassTax", gn_in 81 (by decide +kernel) (by decide +kernel)⟩, tyX3_ok, nmX3, rfl, by decide +kernel⟩
theorem fl_X10_19 : gx_FL RX10 19 10 1 := ⟨RX10, TX10, 15, rfl, by decide, inX10, Or.inl (gw_in 316 (by decide +kernel) (by decide +kernel))⟩
theorem fl_X10_26 : gx_FL RX10 26 10 2 := ⟨RX10, TX10, 15, rfl, by decide, inX10, Or.inl (gw_in 317 (by decide +kernel) (by decide +kernel))⟩
theorem lk_X10_104 : gx_Lk RX10 104 yX5_read := Or.inl (gw_in 377 (by decide +kernel) (by decide +kernel))
theorem lk_X10_108 : gx_Lk RX10 108 yX2_copyFrom := Or.inl (gw_in 438 (by decide +kernel) (by decide +kernel))
theorem lk_X10_111 : gx_Lk RX10 111 yX9_openAnew := Or.inl (gw_in 445 (by decide +kernel) (by decide +kernel))
theorem fl_X10_51 : gx_FL RX10 51 10 7 := ⟨RX10, TX10, 15, rfl, by decide, inX10, Or.inl (gw_in 322 (by decide +kernel) (by decide +kernel))⟩
theorem lk_X10_114 : gx_Lk RX10 114 yX0_forgetAll := Or.inl (gw_in 449 (by decide +kernel) (by decide +kernel))
theorem fp_X10_117 : gx_FP RX10 117 10 9 .int := ⟨RX10, TX10, 15, tyX10, rfl, by decide, inX10, Or.inl (gw_in 324 (by decide +kernel) (by decide +kernel)), tyX10_ok, nmX10, rfl, by decide +kernel⟩
theorem fl_X10_120 : gx_FL RX10 120 2 0 := ⟨RX2, TX2, 8, rfl, by decide, inX2, Or.inr ⟨"GlassTax", gn_in 113 (by decide +kernel) (by decide +kernel)⟩⟩
theorem fl_X10_123 : gx_FL RX10 123 2 1 := ⟨RX2, TX2, 8, rfl, by decide, inX2, Or.inr ⟨"GlassTax", gn_in 117 (by decide +kernel) (by decide +kernel)⟩⟩
theorem lk_X10_126 : gx_Lk RX10 126 yX2_hasGlass := Or.inl (gw_in 457 (by decide +kernel) (by decide +kernel))
theorem fl_X10_130 : gx_FL RX10 130 2 2 := ⟨RX2, TX2, 8, rfl, by decide, inX2, Or.inr ⟨"GlassTax", gn_in 121 (by decide +kernel) (by decide +kernel)⟩⟩
theorem fl_X10_134 : gx_FL RX10 134 9 1 := ⟨RX9, TX9, 5, rfl, by decide, inX9, Or.inr ⟨"GlassTax", gn_in 165 (by decide +kernel) (by decide +kernel)⟩⟩
theorem fl_X10_137 : gx_FL RX10 137 2 4 := ⟨RX2, TX2, 8, rfl, by decide, inX2, Or.inr ⟨"GlassTax", gn_in 126 (by decide +kernel) (by decide +kernel)⟩⟩
theorem fl_X10_140 : gx_FL RX10 140 9 2 := ⟨RX9, TX9, 5, rfl, by decide, inX9, Or.inr ⟨"GlassTax", gn_in 168 (by decide +kernel) (by decide +kernel)⟩⟩
theorem lk_X10_143 : gx_Lk RX10 143 yX9_taxOf := Or.inl (gw_in 458 (by decide +kernel) (by decide +kernel))
theorem lk_X10_146 : gx_Lk RX10 146 yX2_sittersAt := Or.inl (gw_in 463 (by decide +kernel) (by decide +kernel))
theorem lk_X10_149 : gx_Lk RX10 149 yX2_hasDrinker := Or.inl (gw_in 477 (by decide +kernel) (by decide +kernel))
theorem fl_X10_152 : gx_FL RX10 152 9 3 := ⟨RX9, TX9, 5, rfl, by decide, inX9, Or.inr ⟨"GlassTax", gn_in 172 (by decide +kernel) (by decide +kernel)⟩⟩
theorem fl_X10_155 : gx_FL RX10 155 2 6 := ⟨RX2, TX2, 8, rfl, by decide, inX2, Or.inr ⟨"GlassTax", gn_in 131 (by decide +kernel) (by decide +kernel)⟩⟩
theorem fl_X10_158 : gx_FL RX10 158 2 7 := ⟨RX2, TX2, 8, rfl, by decide, inX2, Or.inr ⟨"GlassTax", gn_in 135 (by decide +kernel) (by decide +kernel)⟩⟩
theorem lk_X10_161 : gx_Lk RX10 161 yX9_firstGulp := Or.inl (gw_in 478 (by decide +kernel) (by decide +kernel))
theorem fl_X10_42 : gx_FL RX10 42 10 5 := ⟨RX10, TX10, 15, rfl, by decide, inX10, Or.inl (gw_in 320 (by decide +kernel) (by decide +kernel))⟩
theorem lk_X10_164 : gx_Lk RX10 164 yX9_copyFrom := Or.inl (gw_in 490 (by decide +kernel) (by decide +kernel))
theorem lk_X10_167 : gx_Lk RX10 167 yX9_pourInto := Or.inl (gw_in 495 (by decide +kernel) (by decide +kernel))
theorem lk_X10_171 : gx_Lk RX10 171 yX10_acted := Or.inl (gw_in 507 (by decide +kernel) (by decide +kernel))
theorem lk_X10_174 : gx_Lk RX10 174 yX9_drinkAt := Or.inl (gw_in 525 (by decide +kernel) (by decide +kernel))
theorem lk_X10_177 : gx_Lk RX10 177 yX9_tipOver := Or.inl (gw_in 538 (by decide +kernel) (by decide +kernel))
theorem lk_X10_180 : gx_Lk RX10 180 yX9_passHour := Or.inl (gw_in 546 (by decide +kernel) (by decide +kernel))
theorem lk_X10_184 : gx_Lk RX10 184 yX0_push := Or.inl (gw_in 511 (by decide +kernel) (by decide +kernel))
theorem fl_X10_187 : gx_FL RX10 187 0 2 := ⟨RX0, TX0, 3, rfl, by decide, inX0, Or.inr ⟨"GlassTax", gn_in 212 (by decide +kernel) (by decide +kernel)⟩⟩
theorem lk_X10_190 : gx_Lk RX10 190 yX0_pop := Or.inl (gw_in 563 (by decide +kernel) (by decide +kernel))
theorem lk_X10_193 : gx_Lk RX10 193 yX9_passEvening := Or.inl (gw_in 575 (by decide +kernel) (by decide +kernel))
theorem lk_X10_196 : gx_Lk RX10 196 yX9_taxes := Or.inl (gw_in 588 (by decide +kernel) (by decide +kernel))
theorem lk_X10_199 : gx_Lk RX10 199 yX9_thirstOfAll := Or.inl (gw_in 589 (by decide +kernel) (by decide +kernel))
theorem fl_X10_76 : gx_FL RX10 76 10 11 := ⟨RX10, TX10, 15, rfl, by decide, inX10, Or.inl (gw_in 326 (by decide +kernel) (by decide +kernel))⟩
theorem lk_X10_202 : gx_Lk RX10 202 yX6_startAnew := Or.inl (gw_in 597 (by decide +kernel) (by decide +kernel))
theorem lk_X10_205 : gx_Lk RX10 205 yX6_tryPours := Or.inl (gw_in 601 (by decide +kernel) (by decide +kernel))
theorem fl_X10_209 : gx_FL RX10 209 6 6 := ⟨RX6, TX6, 7, rfl, by decide, inX6, Or.inr ⟨"GlassTax", gn_in 256 (by decide +kernel) (by decide +kernel)⟩⟩
theorem fl_X10_212 : gx_FL RX10 212 6 5 := ⟨RX6, TX6, 7, rfl, by decide, inX6, Or.inr ⟨"GlassTax", gn_in 254 (by decide +kernel) (by decide +kernel)⟩⟩
theorem lk_X10_215 : gx_Lk RX10 215 yX6_fewestForWake := Or.inl (gw_in 630 (by decide +kernel) (by decide +kernel))
theorem lk_X10_218 : gx_Lk RX10 218 yX6_tryTurns := Or.inl (gw_in 656 (by decide +kernel) (by decide +kernel))
theorem kc_X10_221 : Cond.constantLong RX10 221 1000 ∈ gw_tbl := gw_in 676 (by decide +kernel) (by decide +kernel)
theorem lk_X10_223 : Cond.methodLink RX10 223 Lib.MathLoose.max_long.x ∈ gw_tbl := gw_in 677 (by decide +kernel) (by decide +kernel)
theorem lk_X10_229 : gx_Lk RX10 229 yX9_told := Or.inl (gw_in 680 (by decide +kernel) (by decide +kernel))
theorem fl_X10_67 : gx_FL RX10 67 10 10 := ⟨RX10, TX10, 15, rfl, by decide, inX10, Or.inl (gw_in 325 (by decide +kernel) (by decide +kernel))⟩
theorem lk_X10_232 : gx_Lk RX10 232 yX7_add := Or.inl (gw_in 692 (by decide +kernel) (by decide +kernel))
theorem fl_X10_235 : gx_FL RX10 235 7 3 := ⟨RX7, TX7, 4, rfl, by decide, inX7, Or.inr ⟨"GlassTax", gn_in 232 (by decide +kernel) (by decide +kernel)⟩⟩
theorem fp_X10_235 : gx_FP RX10 235 7 3 .int := ⟨RX7, TX7, 4, tyX7, rfl, by decide, inX7, Or.inr ⟨"GlassTax", gn_in 232 (by decide +kernel) (by decide +kernel)⟩, tyX7_ok, nmX7, rfl, by decide +kernel⟩
theorem lk_X10_236 : gx_Lk RX10 236 yX7_thirstsOf := Or.inl (gw_in 704 (by decide +kernel) (by decide +kernel))
theorem fl_X10_83 : gx_FL RX10 83 10 12 := ⟨RX10, TX10, 15, rfl, by decide, inX10, Or.inl (gw_in 327 (by decide +kernel) (by decide +kernel))⟩
theorem lk_X10_239 : gx_Lk RX10 239 yX1_shareOf := Or.inl (gw_in 717 (by decide +kernel) (by decide +kernel))
theorem fl_X10_92 : gx_FL RX10 92 10 13 := ⟨RX10, TX10, 15, rfl, by decide, inX10, Or.inl (gw_in 328 (by decide +kernel) (by decide +kernel))⟩
theorem lk_X10_243 : gx_Lk RX10 243 yX4_findRests := Or.inl (gw_in 753 (by decide +kernel) (by decide +kernel))
theorem fl_X10_247 : gx_FL RX10 247 4 4 := ⟨RX4, TX4, 6, rfl, by decide, inX4, Or.inr ⟨"GlassTax", gn_in 299 (by decide +kernel) (by decide +kernel)⟩⟩
theorem fl_X10_248 : gx_FL RX10 248 4 5 := ⟨RX4, TX4, 6, rfl, by decide, inX4, Or.inr ⟨"GlassTax", gn_in 301 (by decide +kernel) (by decide +kernel)⟩⟩
theorem lk_X10_251 : gx_Lk RX10 251 yX1_leakOf := Or.inl (gw_in 775 (by decide +kernel) (by decide +kernel))
theorem fl_X10_255 : gx_FL RX10 255 10 14 := ⟨RX10, TX10, 15, rfl, by decide, inX10, Or.inl (gw_in 329 (by decide +kernel) (by decide +kernel))⟩
theorem fp_X10_255 : gx_FP RX10 255 10 14 .long := ⟨RX10, TX10, 15, tyX10, rfl, by decide, inX10, Or.inl (gw_in 329 (by decide +kernel) (by decide +kernel)), tyX10_ok, nmX10, rfl, by decide +kernel⟩
theorem kc_X10_259 : Cond.constantLong RX10 259 6364136223846793005 ∈ gw_tbl := gw_in 794 (by decide +kernel) (by decide +kernel)
theorem kc_X10_261 : Cond.constantLong RX10 261 1442695040888963407 ∈ gw_tbl := gw_in 795 (by decide +kernel) (by decide +kernel)
theorem kc_X10_263 : Cond.constantLong RX10 263 24 ∈ gw_tbl := gw_in 796 (by decide +kernel) (by decide +kernel)
theorem lk_X10_265 : gx_Lk RX10 265 yX9_passChance := Or.inl (gw_in 797 (by decide +kernel) (by decide +kernel))
theorem fl_X10_60 : gx_FL RX10 60 10 8 := ⟨RX10, TX10, 15, rfl, by decide, inX10, Or.inl (gw_in 323 (by decide +kernel) (by decide +kernel))⟩
theorem lk_X10_268 : gx_Lk RX10 268 yX8_lay := Or.inl (gw_in 805 (by decide +kernel) (by decide +kernel))
theorem fl_X10_117 : gx_FL RX10 117 10 9 := ⟨RX10, TX10, 15, rfl, by decide, inX10, Or.inl (gw_in 324 (by decide +kernel) (by decide +kernel))⟩
theorem fl_X10_272 : gx_FL RX10 272 9 4 := ⟨RX9, TX9, 5, rfl, by decide, inX9, Or.inr ⟨"GlassTax", gn_in 175 (by decide +kernel) (by decide +kernel)⟩⟩
theorem lk_X10_275 : gx_Lk RX10 275 yX10_hasBit := Or.inl (gw_in 810 (by decide +kernel) (by decide +kernel))
theorem lk_X10_279 : gx_Lk RX10 279 yX8_fetch := Or.inl (gw_in 811 (by decide +kernel) (by decide +kernel))
theorem lk_X10_282 : Cond.methodLink RX10 282 Lib.Math.abs.name ∈ gw_tbl := gw_in 742 (by decide +kernel) (by decide +kernel)
theorem lk_X10_285 : gx_Lk RX10 285 yX10_commonDivisor := Or.inl (gw_in 745 (by decide +kernel) (by decide +kernel))
theorem lk_X10_288 : Cond.methodLink RX10 288 Lib.Math.max.name ∈ gw_tbl := gw_in 748 (by decide +kernel) (by decide +kernel)
theorem fp_X11_56 : gx_FP RX11 56 11 0 .int := ⟨RX11, TX11, 26, tyX11, rfl, by decide, inX11, Or.inl (gw_in 822 (by decide +kernel) (by decide +kernel)), tyX11_ok, nmX11, rfl, by decide +kernel⟩
theorem kc_X11_60 : Cond.constantLong RX11 60 255 ∈ gw_tbl := gw_in 906 (by decide +kernel) (by decide +kernel)
theorem lk_X11_62 : gx_Lk RX11 62 yX11_in := Or.inl (gw_in 907 (by decide +kernel) (by decide +kernel))
theorem fl_X11_66 : gx_FL RX11 66 11 13 := ⟨RX11, TX11, 26, rfl, by decide, inX11, Or.inl (gw_in 835 (by decide +kernel) (by decide +kernel))⟩
theorem fl_X11_34 : gx_FL RX11 34 11 12 := ⟨RX11, TX11, 26, rfl, by decide, inX11, Or.inl (gw_in 834 (by decide +kernel) (by decide +kernel))⟩
theorem fp_X11_66 : gx_FP RX11 66 11 13 .int := ⟨RX11, TX11, 26, tyX11, rfl, by decide, inX11, Or.inl (gw_in 835 (by decide +kernel) (by decide +kernel)), tyX11_ok, nmX11, rfl, by decide +kernel⟩
theorem fl_X11_69 : gx_FL RX11 69 11 15 := ⟨RX11, TX11, 26, rfl, by decide, inX11, Or.inl (gw_in 837 (by decide +kernel) (by decide +kernel))⟩
theorem fl_X11_72 : gx_FL RX11 72 11 14 := ⟨RX11, TX11, 26, rfl, by decide, inX11, Or.inl (gw_in 836 (by decide +kernel) (by decide +kernel))⟩
theorem kc_X11_75 : Cond.constantLong RX11 75 9 ∈ gw_tbl := gw_in 930 (by decide +kernel) (by decide +kernel)
theorem lk_X11_77 : gx_Lk RX11 77 yX11_has := Or.inl (gw_in 931 (by decide +kernel) (by decide +kernel))
theorem fp_X11_69 : gx_FP RX11 69 11 15 .int := ⟨RX11, TX11, 26, tyX11, rfl, by decide, inX11, Or.inl (gw_in 837 (by decide +kernel) (by decide +kernel)), tyX11_ok, nmX11, rfl, by decide +kernel⟩
theorem fp_X11_72 : gx_FP RX11 72 11 14 .int := ⟨RX11, TX11, 26, tyX11, rfl, by decide, inX11, Or.inl (gw_in 836 (by decide +kernel) (by decide +kernel)), tyX11_ok, nmX11, rfl, by decide +kernel⟩
theorem fl_X11_81 : gx_FL RX11 81 11 10 := ⟨RX11, TX11, 26, rfl, by decide, inX11, Or.inl (gw_in 832 (by decide +kernel) (by decide +kernel))⟩
theorem fl_X11_31 : gx_FL RX11 31 11 9 := ⟨RX11, TX11, 26, rfl, by decide, inX11, Or.inl (gw_in 831 (by decide +kernel) (by decide +kernel))⟩
theorem fl_X11_84 : gx_FL RX11 84 11 11 := ⟨RX11, TX11, 26, rfl, by decide, inX11, Or.inl (gw_in 833 (by decide +kernel) (by decide +kernel))⟩
theorem lk_X11_87 : gx_Lk RX11 87 yX11_freeOf := Or.inl (gw_in 938 (by decide +kernel) (by decide +kernel))
theorem fp_X11_81 : gx_FP RX11 81 11 10 .int := ⟨RX11, TX11, 26, tyX11, rfl, by decide, inX11, Or.inl (gw_in 832 (by decide +kernel) (by decide +kernel)), tyX11_ok, nmX11, rfl, by decide +kernel⟩
theorem fp_X11_84 : gx_FP RX11 84 11 11 .int := ⟨RX11, TX11, 26, tyX11, rfl, by decide, inX11, Or.inl (gw_in 833 (by decide +kernel) (by decide +kernel)), tyX11_ok, nmX11, rfl, by decide +kernel⟩
theorem lk_X11_91 : gx_Lk RX11 91 yX11_readPart := Or.inl (gw_in 922 (by decide +kernel) (by decide +kernel))
theorem fl_X11_25 : gx_FL RX11 25 11 7 := ⟨RX11, TX11, 26, rfl, by decide, inX11, Or.inl (gw_in 829 (by decide +kernel) (by decide +kernel))⟩
theorem lk_X11_95 : gx_Lk RX11 95 yX11_figureOf := Or.inl (gw_in 926 (by decide +kernel) (by decide +kernel))
theorem fl_X11_28 : gx_FL RX11 28 11 8 := ⟨RX11, TX11, 26, rfl, by decide, inX11, Or.inl (gw_in 830 (by decide +kernel) (by decide +kernel))⟩
theorem lk_X11_98 : gx_Lk RX11 98 yX11_firstsLeft := Or.inl (gw_in 934 (by decide +kernel) (by decide +kernel))
theorem lk_X11_102 : gx_Lk RX11 102 yX11_readText := Or.inl (gw_in 918 (by decide +kernel) (by decide +kernel))
theorem fp_X11_105 : gx_FP RX11 105 11 1 .int := ⟨RX11, TX11, 26, tyX11, rfl, by decide, inX11, Or.inl (gw_in 823 (by decide +kernel) (by decide +kernel)), tyX11_ok, nmX11, rfl, by decide +kernel⟩
theorem fl_X11_22 : gx_FL RX11 22 11 6 := ⟨RX11, TX11, 26, rfl, by decide, inX11, Or.inl (gw_in 828 (by decide +kernel) (by decide +kernel))⟩
theorem fl_X11_56 : gx_FL RX11 56 11 0 := ⟨RX11, TX11, 26, rfl, by decide, inX11, Or.inl (gw_in 822 (by decide +kernel) (by decide +kernel))⟩
theorem fl_X11_7 : gx_FL RX11 7 11 2 := ⟨RX11, TX11, 26, rfl, by decide, inX11, Or.inl (gw_in 824 (by decide +kernel) (by decide +kernel))⟩
theorem fl_X11_13 : gx_FL RX11 13 11 3 := ⟨RX11, TX11, 26, rfl, by decide, inX11, Or.inl (gw_in 825 (by decide +kernel) (by decide +kernel))⟩
theorem fl_X11_105 : gx_FL RX11 105 11 1 := ⟨RX11, TX11, 26, rfl, by decide, inX11, Or.inl (gw_in 823 (by decide +kernel) (by decide +kernel))⟩
theorem fl_X11_16 : gx_FL RX11 16 11 4 := ⟨RX11, TX11, 26, rfl, by decide, inX11, Or.inl (gw_in 826 (by decide +kernel) (by decide +kernel))⟩
theorem fl_X11_19 : gx_FL RX11 19 11 5 := ⟨RX11, TX11, 26, rfl, by decide, inX11, Or.inl (gw_in 827 (by decide +kernel) (by decide +kernel))⟩
theorem fp_X11_108 : gx_FP RX11 108 11 16 .int := ⟨RX11, TX11, 26, tyX11, rfl, by decide, inX11, Or.inl (gw_in 838 (by decide +kernel) (by decide +kernel)), tyX11_ok, nmX11, rfl, by decide +kernel⟩
theorem fl_X11_49 : gx_FL RX11 49 11 24 := ⟨RX11, TX11, 26, rfl, by decide, inX11, Or.inl (gw_in 846 (by decide +kernel) (by decide +kernel))⟩
theorem lk_X11_111 : gx_Lk RX11 111 yX11_drinks := Or.inl (gw_in 973 (by decide +kernel) (by decide +kernel))
theorem lk_X11_115 : gx_Lk RX11 115 yX11_drinkOn := Or.inl (gw_in 996 (by decide +kernel) (by decide +kernel))
theorem lk_X11_118 : gx_Lk RX11 118 yX11_sitOn := Or.inl (gw_in 1040 (by decide +kernel) (by decide +kernel))
theorem lk_X11_122 : gx_Lk RX11 122 yX11_taxOn := Or.inl (gw_in 954 (by decide +kernel) (by decide +kernel))
theorem lk_X11_126 : gx_Lk RX11 126 yX11_isGlass := Or.inl (gw_in 950 (by decide +kernel) (by decide +kernel))
theorem lk_X11_130 : gx_Lk RX11 130 yX11_sittersAt := Or.inl (gw_in 958 (by decide +kernel) (by decide +kernel))
theorem lk_X11_133 : gx_Lk RX11 133 yX11_isDrinker := Or.inl (gw_in 966 (by decide +kernel) (by decide +kernel))
theorem lk_X11_136 : gx_Lk RX11 136 yX11_firstOf := Or.inl (gw_in 970 (by decide +kernel) (by decide +kernel))
theorem fl_X11_37 : gx_FL RX11 37 11 18 := ⟨RX11, TX11, 26, rfl, by decide, inX11, Or.inl (gw_in 840 (by decide +kernel) (by decide +kernel))⟩
theorem fl_X11_139 : gx_FL RX11 139 11 17 := ⟨RX11, TX11, 26, rfl, by decide, inX11, Or.inl (gw_in 839 (by decide +kernel) (by decide +kernel))⟩
theorem fp_X11_139 : gx_FP RX11 139 11 17 .int := ⟨RX11, TX11, 26, tyX11, rfl, by decide, inX11, Or.inl (gw_in 839 (by decide +kernel) (by decide +kernel)), tyX11_ok, nmX11, rfl, by decide +kernel⟩
theorem fl_X11_108 : gx_FL RX11 108 11 16 := ⟨RX11, TX11, 26, rfl, by decide, inX11, Or.inl (gw_in 838 (by decide +kernel) (by decide +kernel))⟩
theorem lk_X11_142 : gx_Lk RX11 142 yX11_roomIn := Or.inl (gw_in 980 (by decide +kernel) (by decide +kernel))
theorem lk_X11_145 : gx_Lk RX11 145 yX11_keepAct := Or.inl (gw_in 984 (by decide +kernel) (by decide +kernel))
theorem lk_X11_148 : gx_Lk RX11 148 yX11_pourOn := Or.inl (gw_in 988 (by decide +kernel) (by decide +kernel))
theorem lk_X11_151 : gx_Lk RX11 151 yX11_canTip := Or.inl (gw_in 1004 (by decide +kernel) (by decide +kernel))
theorem lk_X11_155 : gx_Lk RX11 155 yX11_tipOn := Or.inl (gw_in 1008 (by decide +kernel) (by decide +kernel))
theorem lk_X11_158 : gx_Lk RX11 158 yX11_passOn := Or.inl (gw_in 1016 (by decide +kernel) (by decide +kernel))
theorem lk_X11_161 : gx_Lk RX11 161 yX11_taxes := Or.inl (gw_in 1020 (by decide +kernel) (by decide +kernel))
theorem lk_X11_164 : gx_Lk RX11 164 yX11_layTrial := Or.inl (gw_in 1032 (by decide +kernel) (by decide +kernel))
theorem lk_X11_167 : gx_Lk RX11 167 yX11_eveningOn := Or.inl (gw_in 1036 (by decide +kernel) (by decide +kernel))
theorem lk_X11_170 : gx_Lk RX11 170 yX11_thirst := Or.inl (gw_in 1048 (by decide +kernel) (by decide +kernel))
theorem lk_X11_174 : gx_Lk RX11 174 yX11_tenTo := Or.inl (gw_in 1056 (by decide +kernel) (by decide +kernel))
theorem lk_X11_177 : gx_Lk RX11 177 yX11_figuresSum := Or.inl (gw_in 1059 (by decide +kernel) (by decide +kernel))
theorem lk_X11_180 : gx_Lk RX11 180 yX11_taxesBy := Or.inl (gw_in 1062 (by decide +kernel) (by decide +kernel))
theorem lk_X11_183 : gx_Lk RX11 183 yX11_ones := Or.inl (gw_in 1070 (by decide +kernel) (by decide +kernel))
theorem lk_X11_186 : gx_Lk RX11 186 yX11_thirstBy := Or.inl (gw_in 1077 (by decide +kernel) (by decide +kernel))
theorem kc_X11_189 : Cond.constantLong RX11 189 1000 ∈ gw_tbl := gw_in 1093 (by decide +kernel) (by decide +kernel)
theorem kc_X11_191 : Cond.constantLong RX11 191 4 ∈ gw_tbl := gw_in 1089 (by decide +kernel) (by decide +kernel)
theorem lk_X11_193 : gx_Lk RX11 193 yX11_thousandTo := Or.inl (gw_in 1090 (by decide +kernel) (by decide +kernel))
theorem lk_X11_197 : gx_Lk RX11 197 yX11_tryThing := Or.inl (gw_in 1094 (by decide +kernel) (by decide +kernel))
theorem fl_X11_200 : gx_FL RX11 200 11 19 := ⟨RX11, TX11, 26, rfl, by decide, inX11, Or.inl (gw_in 841 (by decide +kernel) (by decide +kernel))⟩
theorem fl_X11_40 : gx_FL RX11 40 11 20 := ⟨RX11, TX11, 26, rfl, by decide, inX11, Or.inl (gw_in 842 (by decide +kernel) (by decide +kernel))⟩
theorem fl_X11_43 : gx_FL RX11 43 11 21 := ⟨RX11, TX11, 26, rfl, by decide, inX11, Or.inl (gw_in 843 (by decide +kernel) (by decide +kernel))⟩
theorem fl_X11_46 : gx_FL RX11 46 11 22 := ⟨RX11, TX11, 26, rfl, by decide, inX11, Or.inl (gw_in 844 (by decide +kernel) (by decide +kernel))⟩
theorem fp_X11_200 : gx_FP RX11 200 11 19 .int := ⟨RX11, TX11, 26, tyX11, rfl, by decide, inX11, Or.inl (gw_in 841 (by decide +kernel) (by decide +kernel)), tyX11_ok, nmX11, rfl, by decide +kernel⟩
theorem lk_X11_203 : gx_Lk RX11 203 yX11_factorial := Or.inl (gw_in 1114 (by decide +kernel) (by decide +kernel))
theorem lk_X11_206 : gx_Lk RX11 206 yX11_taxesOf := Or.inl (gw_in 1117 (by decide +kernel) (by decide +kernel))
theorem lk_X11_209 : gx_Lk RX11 209 yX11_common := Or.inl (gw_in 1121 (by decide +kernel) (by decide +kernel))
theorem lk_X11_212 : gx_Lk RX11 212 yX11_gain := Or.inl (gw_in 1132 (by decide +kernel) (by decide +kernel))
theorem lk_X11_216 : gx_Lk RX11 216 yX11_isRest := Or.inl (gw_in 1128 (by decide +kernel) (by decide +kernel))
theorem kc_X11_220 : Cond.constantLong RX11 220 60 ∈ gw_tbl := gw_in 1140 (by decide +kernel) (by decide +kernel)
theorem kc_X11_222 : Cond.constantLong RX11 222 10 ∈ gw_tbl := gw_in 1141 (by decide +kernel) (by decide +kernel)
theorem fl_X11_224 : gx_FL RX11 224 11 23 := ⟨RX11, TX11, 26, rfl, by decide, inX11, Or.inl (gw_in 845 (by decide +kernel) (by decide +kernel))⟩
theorem fp_X11_224 : gx_FP RX11 224 11 23 .long := ⟨RX11, TX11, 26, tyX11, rfl, by decide, inX11, Or.inl (gw_in 845 (by decide +kernel) (by decide +kernel)), tyX11_ok, nmX11, rfl, by decide +kernel⟩
theorem kc_X11_228 : Cond.constantLong RX11 228 30 ∈ gw_tbl := gw_in 1150 (by decide +kernel) (by decide +kernel)
theorem kc_X11_230 : Cond.constantLong RX11 230 6364136223846793005 ∈ gw_tbl := gw_in 1151 (by decide +kernel) (by decide +kernel)
theorem kc_X11_232 : Cond.constantLong RX11 232 1442695040888963407 ∈ gw_tbl := gw_in 1152 (by decide +kernel) (by decide +kernel)
theorem kc_X11_234 : Cond.constantLong RX11 234 24 ∈ gw_tbl := gw_in 1153 (by decide +kernel) (by decide +kernel)
theorem fl_X11_53 : gx_FL RX11 53 11 25 := ⟨RX11, TX11, 26, rfl, by decide, inX11, Or.inl (gw_in 847 (by decide +kernel) (by decide +kernel))⟩
theorem kc_J6_265 : Cond.constant RJ6 265 1431655765 ∈ gw_tbl := gw_in 637 (by decide +kernel) (by decide +kernel)
theorem kc_J6_266 : Cond.constant RJ6 266 858993459 ∈ gw_tbl := gw_in 638 (by decide +kernel) (by decide +kernel)
theorem kc_J6_267 : Cond.constant RJ6 267 252645135 ∈ gw_tbl := gw_in 639 (by decide +kernel) (by decide +kernel)
theorem lk_L_9 : gx_Lk RL 9 yX10_init := Or.inl (gw_in 65 (by decide +kernel) (by decide +kernel))
theorem lk_L_12 : gx_Lk RL 12 yX11_init := Or.inl (gw_in 818 (by decide +kernel) (by decide +kernel))
theorem lk_L_13 : gx_Lk RL 13 yX10_write := Or.inl (gw_in 361 (by decide +kernel) (by decide +kernel))
theorem lk_L_17 : gx_Lk RL 17 yX11_write := Or.inl (gw_in 902 (by decide +kernel) (by decide +kernel))
theorem lk_L_18 : gx_Lk RL 18 yX10_wipe := Or.inl (gw_in 369 (by decide +kernel) (by decide +kernel))
theorem lk_L_22 : gx_Lk RL 22 yX11_wipe := Or.inl (gw_in 910 (by decide +kernel) (by decide +kernel))
theorem lk_L_23 : gx_Lk RL 23 yX10_fault := Or.inl (gw_in 373 (by decide +kernel) (by decide +kernel))
theorem lk_L_26 : gx_Lk RL 26 yX11_fault := Or.inl (gw_in 914 (by decide +kernel) (by decide +kernel))
theorem lk_L_27 : gx_Lk RL 27 yX10_inn := Or.inl (gw_in 434 (by decide +kernel) (by decide +kernel))
theorem lk_L_30 : gx_Lk RL 30 yX11_inn := Or.inl (gw_in 942 (by decide +kernel) (by decide +kernel))
theorem lk_L_31 : gx_Lk RL 31 yX10_glass := Or.inl (gw_in 453 (by decide +kernel) (by decide +kernel))
theorem lk_L_35 : gx_Lk RL 35 yX11_glass := Or.inl (gw_in 946 (by decide +kernel) (by decide +kernel))
theorem lk_L_36 : gx_Lk RL 36 yX10_drinker := Or.inl (gw_in 473 (by decide +kernel) (by decide +kernel))
theorem lk_L_39 : gx_Lk RL 39 yX11_drinker := Or.inl (gw_in 962 (by decide +kernel) (by decide +kernel))
theorem lk_L_40 : gx_Lk RL 40 yX10_pour := Or.inl (gw_in 486 (by decide +kernel) (by decide +kernel))
theorem lk_L_43 : gx_Lk RL 43 yX11_pour := Or.inl (gw_in 976 (by decide +kernel) (by decide +kernel))
theorem lk_L_44 : gx_Lk RL 44 yX10_drink := Or.inl (gw_in 521 (by decide +kernel) (by decide +kernel))
theorem lk_L_47 : gx_Lk RL 47 yX11_drink := Or.inl (gw_in 992 (by decide +kernel) (by decide +kernel))
theorem lk_L_48 : gx_Lk RL 48 yX10_tip := Or.inl (gw_in 534 (by decide +kernel) (by decide +kernel))
theorem lk_L_51 : gx_Lk RL 51 yX11_tip := Or.inl (gw_in 1000 (by decide +kernel) (by decide +kernel))
theorem lk_L_52 : gx_Lk RL 52 yX10_hour := Or.inl (gw_in 542 (by decide +kernel) (by decide +kernel))
theorem lk_L_55 : gx_Lk RL 55 yX11_hour := Or.inl (gw_in 1012 (by decide +kernel) (by decide +kernel))
theorem lk_L_56 : gx_Lk RL 56 yX10_undo := Or.inl (gw_in 559 (by decide +kernel) (by decide +kernel))
theorem lk_L_59 : gx_Lk RL 59 yX11_undo := Or.inl (gw_in 1024 (by decide +kernel) (by decide +kernel))
theorem lk_L_60 : gx_Lk RL 60 yX10_left := Or.inl (gw_in 571 (by decide +kernel) (by decide +kernel))
theorem lk_L_63 : gx_Lk RL 63 yX11_left := Or.inl (gw_in 1028 (by decide +kernel) (by decide +kernel))
theorem lk_L_64 : gx_Lk RL 64 yX10_evening := Or.inl (gw_in 584 (by decide +kernel) (by decide +kernel))
theorem lk_L_67 : gx_Lk RL 67 yX11_evening := Or.inl (gw_in 1044 (by decide +kernel) (by decide +kernel))
theorem lk_L_68 : gx_Lk RL 68 yX10_pouring := Or.inl (gw_in 593 (by decide +kernel) (by decide +kernel))
theorem lk_L_72 : gx_Lk RL 72 yX11_pouring := Or.inl (gw_in 1052 (by decide +kernel) (by decide +kernel))
theorem lk_L_73 : gx_Lk RL 73 yX10_wake := Or.inl (gw_in 626 (by decide +kernel) (by decide +kernel))
theorem lk_L_76 : gx_Lk RL 76 yX11_wake := Or.inl (gw_in 1066 (by decide +kernel) (by decide +kernel))
theorem lk_L_77 : gx_Lk RL 77 yX10_order := Or.inl (gw_in 652 (by decide +kernel) (by decide +kernel))
theorem lk_L_81 : gx_Lk RL 81 yX11_order := Or.inl (gw_in 1073 (by decide +kernel) (by decide +kernel))
theorem lk_L_82 : gx_Lk RL 82 yX10_hall := Or.inl (gw_in 668 (by decide +kernel) (by decide +kernel))
theorem lk_L_85 : gx_Lk RL 85 yX11_hall := Or.inl (gw_in 1081 (by decide +kernel) (by decide +kernel))
theorem kc_L_86 : Cond.constantLong RL 86 4294967295 ∈ gw_tbl := gw_in 1166 (by decide +kernel) (by decide +kernel)
theorem lk_L_88 : gx_Lk RL 88 yX10_judge := Or.inl (gw_in 672 (by decide +kernel) (by decide +kernel))
theorem lk_L_92 : gx_Lk RL 92 yX11_judge := Or.inl (gw_in 1085 (by decide +kernel) (by decide +kernel))
theorem lk_L_93 : gx_Lk RL 93 yX10_see := Or.inl (gw_in 688 (by decide +kernel) (by decide +kernel))
theorem lk_L_97 : gx_Lk RL 97 yX11_see := Or.inl (gw_in 1098 (by decide +kernel) (by decide +kernel))
theorem lk_L_98 : gx_Lk RL 98 yX10_unsee := Or.inl (gw_in 696 (by decide +kernel) (by decide +kernel))
theorem lk_L_101 : gx_Lk RL 101 yX11_unsee := Or.inl (gw_in 1102 (by decide +kernel) (by decide +kernel))
theorem lk_L_102 : gx_Lk RL 102 yX10_thirsts := Or.inl (gw_in 700 (by decide +kernel) (by decide +kernel))
theorem lk_L_105 : gx_Lk RL 105 yX11_thirsts := Or.inl (gw_in 1106 (by decide +kernel) (by decide +kernel))
theorem lk_L_106 : gx_Lk RL 106 yX10_share := Or.inl (gw_in 713 (by decide +kernel) (by decide +kernel))
theorem lk_L_109 : gx_Lk RL 109 yX11_share := Or.inl (gw_in 1110 (by decide +kernel) (by decide +kernel))
theorem lk_L_110 : gx_Lk RL 110 yX10_rests := Or.inl (gw_in 749 (by decide +kernel) (by decide +kernel))
theorem lk_L_113 : gx_Lk RL 113 yX11_rests := Or.inl (gw_in 1124 (by decide +kernel) (by decide +kernel))
theorem lk_L_114 : gx_Lk RL 114 yX10_leak := Or.inl (gw_in 771 (by decide +kernel) (by decide +kernel))
theorem lk_L_118 : gx_Lk RL 118 yX11_leak := Or.inl (gw_in 1136 (by decide +kernel) (by decide +kernel))
theorem lk_L_119 : gx_Lk RL 119 yX10_seed := Or.inl (gw_in 786 (by decide +kernel) (by decide +kernel))
theorem lk_L_123 : gx_Lk RL 123 yX11_seed := Or.inl (gw_in 1142 (by decide +kernel) (by decide +kernel))
theorem lk_L_124 : gx_Lk RL 124 yX10_nights := Or.inl (gw_in 790 (by decide +kernel) (by decide +kernel))
theorem lk_L_127 : gx_Lk RL 127 yX11_nights := Or.inl (gw_in 1146 (by decide +kernel) (by decide +kernel))
theorem lk_L_128 : gx_Lk RL 128 yX10_keep := Or.inl (gw_in 801 (by decide +kernel) (by decide +kernel))
theorem lk_L_131 : gx_Lk RL 131 yX11_keep := Or.inl (gw_in 1154 (by decide +kernel) (by decide +kernel))
theorem lk_L_132 : gx_Lk RL 132 yX10_again := Or.inl (gw_in 806 (by decide +kernel) (by decide +kernel))
theorem lk_L_135 : gx_Lk RL 135 yX11_again := Or.inl (gw_in 1158 (by decide +kernel) (by decide +kernel))
theorem lk_L_136 : gx_Lk RL 136 yX10_count := Or.inl (gw_in 812 (by decide +kernel) (by decide +kernel))
theorem lk_L_139 : gx_Lk RL 139 yX11_count := Or.inl (gw_in 1162 (by decide +kernel) (by decide +kernel))
abbrev mX0_init : gx_M := (yX0_init, cX0_init, 1, none)
abbrev mX0_push : gx_M := (yX0_push, cX0_push, 2, none)
theorem vX0_push : gx_MV mX0_push 1 ∧ gx_mc mX0_push 0 := ⟨⟨gw_in 512 (by decide +kernel) (by decide +kernel), gw_in 513 (by decide +kernel) (by decide +kernel), gw_in 53 (by decide +kernel) (by decide +kernel), gw_in 514 (by decide +kernel) (by decide +kernel), by decide +kernel, by decide +kernel, by decide +kernel, by decide⟩, _, rfl, rfl⟩
abbrev mX0_pop : gx_M := (yX0_pop, cX0_pop, 2, none)
theorem vX0_pop : gx_MV mX0_pop 1 ∧ gx_mc mX0_pop 0 := ⟨⟨gw_in 564 (by decide +kernel) (by decide +kernel), gw_in 565 (by decide +kernel) (by decide +kernel), gw_in 53 (by decide +kernel) (by decide +kernel), gw_in 566 (by decide +kernel) (by decide +kernel), by decide +kernel, by decide +kernel, by decide +kernel, by decide⟩, _, rfl, rfl⟩
abbrev mX0_forgetAll : gx_M := (yX0_forgetAll, cX0_forgetAll, 1, none)
theorem vX0_forgetAll : gx_MV mX0_forgetAll 0 ∧ gx_mc mX0_forgetAll 0 := ⟨⟨gw_in 450 (by decide +kernel) (by decide +kernel), gw_in 451 (by decide +kernel) (by decide +kernel), gw_in 53 (by decide +kernel) (by decide +kernel), gw_in 452 (by decide +kernel) (by decide +kernel), by decide +kernel, by decide +kernel, by decide +kernel, by decide⟩, _, rfl, rfl⟩
abbrev mX1_init : gx_M := (yX1_init, cX1_init, 4, none)
abbrev mX1_shareOf : gx_M := (yX1_shareOf, cX1_shareOf, 6, some .int)
theorem vX1_shareOf : gx_MV mX1_shareOf 2 ∧ gx_mc mX1_shareOf 1 := ⟨⟨gw_in 718 (by decide +kernel) (by decide +kernel), gw_in 719 (by decide +kernel) (by decide +kernel), gw_in 58 (by decide +kernel) (by decide +kernel), gw_in 720 (by decide +kernel) (by decide +kernel), by decide +kernel, by decide +kernel, by decide +kernel, by decide⟩, _, rfl, rfl⟩
abbrev mX1_ordersWith : gx_M := (yX1_ordersWith, cX1_ordersWith, 2, some .int)
theorem vX1_ordersWith : gx_MV mX1_ordersWith 1 ∧ gx_mc mX1_ordersWith 1 := ⟨⟨gw_in 732 (by decide +kernel) (by decide +kernel), gw_in 15 (by decide +kernel) (by decide +kernel), gw_in 58 (by decide +kernel) (by decide +kernel), gw_in 733 (by decide +kernel) (by decide +kernel), by decide +kernel, by decide +kernel, by decide +kernel, by decide⟩, _, rfl, rfl⟩
abbrev mX1_orders : gx_M := (yX1_orders, cX1_orders, 1, some .int)
theorem sX1_orders : gx_MS mX1_orders 1 := ⟨gw_in 735 (by decide +kernel) (by decide +kernel), gw_in 58 (by decide +kernel) (by decide +kernel), gw_in 736 (by decide +kernel) (by decide +kernel), by decide +kernel, by decide +kernel, by decide +kernel, by decide⟩
abbrev mX1_taxesOf : gx_M := (yX1_taxesOf, cX1_taxesOf, 2, some .int)
theorem vX1_taxesOf : gx_MV mX1_taxesOf 1 ∧ gx_mc mX1_taxesOf 1 := ⟨⟨gw_in 724 (by decide +kernel) (by decide +kernel), gw_in 14 (by decide +kernel) (by decide +kernel), gw_in 58 (by decide +kernel) (by decide +kernel), gw_in 725 (by decide +kernel) (by decide +kernel), by decide +kernel, by decide +kernel, by decide +kernel, by decide⟩, _, rfl, rfl⟩
abbrev mX1_leakOf : gx_M := (yX1_leakOf, cX1_leakOf, 8, some .int)
theorem vX1_leakOf : gx_MV mX1_leakOf 3 ∧ gx_mc mX1_leakOf 1 := ⟨⟨gw_in 776 (by decide +kernel) (by decide +kernel), gw_in 777 (by decide +kernel) (by decide +kernel), gw_in 58 (by decide +kernel) (by decide +kernel), gw_in 778 (by decide +kernel) (by decide +kernel), by decide +kernel, by decide +kernel, by decide +kernel, by decide⟩, _, rfl, rfl⟩
abbrev mX1_taxesByLeaks : gx_M := (yX1_taxesByLeaks, cX1_taxesByLeaks, 3, some .int)
theorem vX1_taxesByLeaks : gx_MV mX1_taxesByLeaks 1 ∧ gx_mc mX1_taxesByLeaks 1 := ⟨⟨gw_in 781 (by decide +kernel) (by decide +kernel), gw_in 19 (by decide +kernel) (by decide +kernel), gw_in 58 (by decide +kernel) (by decide +kernel), gw_in 782 (by decide +kernel) (by decide +kernel), by decide +kernel, by decide +kernel, by decide +kernel, by decide⟩, _, rfl, rfl⟩
abbrev mX1_weightOf : gx_M := (yX1_weightOf, cX1_weightOf, 5, some .int)
theorem sX1_weightOf : gx_MS mX1_weightOf 3 := ⟨gw_in 784 (by decide +kernel) (by decide +kernel), gw_in 58 (by decide +kernel) (by decide +kernel), gw_in 785 (by decide +kernel) (by decide +kernel), by decide +kernel, by decide +kernel, by decide +kernel, by decide⟩
abbrev mX2_init : gx_M := (yX2_init, cX2_init, 1, none)
abbrev mX2_clear : gx_M := (yX2_clear, cX2_clear, 2, none)
theorem vX2_clear : gx_MV mX2_clear 0 ∧ gx_mc mX2_clear 2 := ⟨⟨gw_in 382 (by decide +kernel) (by decide +kernel), gw_in 383 (by decide +kernel) (by decide +kernel), gw_in 51 (by decide +kernel) (by decide +kernel), gw_in 384 (by decide +kernel) (by decide +kernel), by decide +kernel, by decide +kernel, by decide +kernel, by decide⟩, _, rfl, rfl⟩
abbrev mX2_copyFrom : gx_M := (yX2_copyFrom, cX2_copyFrom, 2, none)
theorem vX2_copyFrom : gx_MV mX2_copyFrom 1 ∧ gx_mc mX2_copyFrom 2 := ⟨⟨gw_in 439 (by decide +kernel) (by decide +kernel), gw_in 440 (by decide +kernel) (by decide +kernel), gw_in 51 (by decide +kernel) (by decide +kernel), gw_in 441 (by decide +kernel) (by decide +kernel), by decide +kernel, by decide +kernel, by decide +kernel, by decide⟩, _, rfl, rfl⟩
abbrev mX2_addGlass : gx_M := (yX2_addGlass, cX2_addGlass, 4, none)
theorem vX2_addGlass : gx_MV mX2_addGlass 3 ∧ gx_mc mX2_addGlass 2 := ⟨⟨gw_in 427 (by decide +kernel) (by decide +kernel), gw_in 428 (by decide +kernel) (by decide +kernel), gw_in 51 (by decide +kernel) (by decide +kernel), gw_in 429 (by decide +kernel) (by decide +kernel), by decide +kernel, by decide +kernel, by decide +kernel, by decide⟩, _, rfl, rfl⟩
abbrev mX2_addDrinker : gx_M := (yX2_addDrinker, cX2_addDrinker, 3, none)
theorem vX2_addDrinker : gx_MV mX2_addDrinker 2 ∧ gx_mc mX2_addDrinker 2 := ⟨⟨gw_in 431 (by decide +kernel) (by decide +kernel), gw_in 432 (by decide +kernel) (by decide +kernel), gw_in 51 (by decide +kernel) (by decide +kernel), gw_in 433 (by decide +kernel) (by decide +kernel), by decide +kernel, by decide +kernel, by decide +kernel, by decide⟩, _, rfl, rfl⟩
abbrev mX2_hasGlass : gx_M := (yX2_hasGlass, cX2_hasGlass, 2, some .boolean)
theorem vX2_hasGlass : gx_MV mX2_hasGlass 1 ∧ gx_mc mX2_hasGlass 2 := ⟨⟨gw_in 420 (by decide +kernel) (by decide +kernel), gw_in 421 (by decide +kernel) (by decide +kernel), gw_in 51 (by decide +kernel) (by decide +kernel), gw_in 422 (by decide +kernel) (by decide +kernel), by decide +kernel, by decide +kernel, by decide +kernel, by decide⟩, _, rfl, rfl⟩
abbrev mX2_hasDrinker : gx_M := (yX2_hasDrinker, cX2_hasDrinker, 2, some .boolean)
theorem vX2_hasDrinker : gx_MV mX2_hasDrinker 1 ∧ gx_mc mX2_hasDrinker 2 := ⟨⟨gw_in 402 (by decide +kernel) (by decide +kernel), gw_in 403 (by decide +kernel) (by decide +kernel), gw_in 51 (by decide +kernel) (by decide +kernel), gw_in 404 (by decide +kernel) (by decide +kernel), by decide +kernel, by decide +kernel, by decide +kernel, by decide⟩, _, rfl, rfl⟩
abbrev mX2_sits : gx_M := (yX2_sits, cX2_sits, 3, some .boolean)
theorem vX2_sits : gx_MV mX2_sits 2 ∧ gx_mc mX2_sits 2 := ⟨⟨gw_in 468 (by decide +kernel) (by decide +kernel), gw_in 469 (by decide +kernel) (by decide +kernel), gw_in 51 (by decide +kernel) (by decide +kernel), gw_in 470 (by decide +kernel) (by decide +kernel), by decide +kernel, by decide +kernel, by decide +kernel, by decide⟩, _, rfl, rfl⟩
abbrev mX2_canSit : gx_M := (yX2_canSit, cX2_canSit, 2, some .boolean)
theorem vX2_canSit : gx_MV mX2_canSit 1 ∧ gx_mc mX2_canSit 2 := ⟨⟨gw_in 398 (by decide +kernel) (by decide +kernel), gw_in 399 (by decide +kernel) (by decide +kernel), gw_in 51 (by decide +kernel) (by decide +kernel), gw_in 400 (by decide +kernel) (by decide +kernel), by decide +kernel, by decide +kernel, by decide +kernel, by decide⟩, _, rfl, rfl⟩
abbrev mX2_anyCanSit : gx_M := (yX2_anyCanSit, cX2_anyCanSit, 2, some .boolean)
theorem vX2_anyCanSit : gx_MV mX2_anyCanSit 0 ∧ gx_mc mX2_anyCanSit 2 := ⟨⟨gw_in 394 (by decide +kernel) (by decide +kernel), gw_in 395 (by decide +kernel) (by decide +kernel), gw_in 51 (by decide +kernel) (by decide +kernel), gw_in 396 (by decide +kernel) (by decide +kernel), by decide +kernel, by decide +kernel, by decide +kernel, by decide⟩, _, rfl, rfl⟩
abbrev mX2_sittersAt : gx_M := (yX2_sittersAt, cX2_sittersAt, 4, some .int)
theorem vX2_sittersAt : gx_MV mX2_sittersAt 1 ∧ gx_mc mX2_sittersAt 2 := ⟨⟨gw_in 464 (by decide +kernel) (by decide +kernel), gw_in 465 (by decide +kernel) (by decide +kernel), gw_in 51 (by decide +kernel) (by decide +kernel), gw_in 466 (by decide +kernel) (by decide +kernel), by decide +kernel, by decide +kernel, by decide +kernel, by decide⟩, _, rfl, rfl⟩
abbrev mX3_init : gx_M := (yX3_init, cX3_init, 1, none)
abbrev mX3_add : gx_M := (yX3_add, cX3_add, 2, some .int)
theorem vX3_add : gx_MV mX3_add 1 ∧ gx_mc mX3_add 3 := ⟨⟨gw_in 366 (by decide +kernel) (by decide +kernel), gw_in 367 (by decide +kernel) (by decide +kernel), gw_in 49 (by decide +kernel) (by decide +kernel), gw_in 368 (by decide +kernel) (by decide +kernel), by decide +kernel, by decide +kernel, by decide +kernel, by decide⟩, _, rfl, rfl⟩
abbrev mX4_init : gx_M := (yX4_init, cX4_init, 3, none)
abbrev mX4_findRests : gx_M := (yX4_findRests, cX4_findRests, 5, none)
theorem vX4_findRests : gx_MV mX4_findRests 2 ∧ gx_mc mX4_findRests 4 := ⟨⟨gw_in 754 (by decide +kernel) (by decide +kernel), gw_in 755 (by decide +kernel) (by decide +kernel), gw_in 59 (by decide +kernel) (by decide +kernel), gw_in 756 (by decide +kernel) (by decide +kernel), by decide +kernel, by decide +kernel, by decide +kernel, by decide⟩, _, rfl, rfl⟩
abbrev mX4_isRest : gx_M := (yX4_isRest, cX4_isRest, 4, some .boolean)
theorem vX4_isRest : gx_MV mX4_isRest 2 ∧ gx_mc mX4_isRest 4 := ⟨⟨gw_in 760 (by decide +kernel) (by decide +kernel), gw_in 16 (by decide +kernel) (by decide +kernel), gw_in 59 (by decide +kernel) (by decide +kernel), gw_in 761 (by decide +kernel) (by decide +kernel), by decide +kernel, by decide +kernel, by decide +kernel, by decide⟩, _, rfl, rfl⟩
abbrev mX4_oneHas : gx_M := (yX4_oneHas, cX4_oneHas, 4, some .int)
theorem vX4_oneHas : gx_MV mX4_oneHas 2 ∧ gx_mc mX4_oneHas 4 := ⟨⟨gw_in 764 (by decide +kernel) (by decide +kernel), gw_in 17 (by decide +kernel) (by decide +kernel), gw_in 59 (by decide +kernel) (by decide +kernel), gw_in 765 (by decide +kernel) (by decide +kernel), by decide +kernel, by decide +kernel, by decide +kernel, by decide⟩, _, rfl, rfl⟩
abbrev mX4_otherHas : gx_M := (yX4_otherHas, cX4_otherHas, 6, some .int)
theorem vX4_otherHas : gx_MV mX4_otherHas 2 ∧ gx_mc mX4_otherHas 4 := ⟨⟨gw_in 769 (by decide +kernel) (by decide +kernel), gw_in 18 (by decide +kernel) (by decide +kernel), gw_in 59 (by decide +kernel) (by decide +kernel), gw_in 770 (by decide +kernel) (by decide +kernel), by decide +kernel, by decide +kernel, by decide +kernel, by decide⟩, _, rfl, rfl⟩
abbrev mX5_init : gx_M := (yX5_init, cX5_init, 1, none)
abbrev mX5_read : gx_M := (yX5_read, cX5_read, 4, some .int)
theorem vX5_read : gx_MV mX5_read 2 ∧ gx_mc mX5_read 5 := ⟨⟨gw_in 378 (by decide +kernel) (by decide +kernel), gw_in 379 (by decide +kernel) (by decide +kernel), gw_in 50 (by decide +kernel) (by decide +kernel), gw_in 380 (by decide +kernel) (by decide +kernel), by decide +kernel, by decide +kernel, by decide +kernel, by decide⟩, _, rfl, rfl⟩
abbrev mX5_takes : gx_M := (yX5_takes, cX5_takes, 3, some .boolean)
theorem vX5_takes : gx_MV mX5_takes 2 ∧ gx_mc mX5_takes 5 := ⟨⟨gw_in 387 (by decide +kernel) (by decide +kernel), gw_in 0 (by decide +kernel) (by decide +kernel), gw_in 50 (by decide +kernel) (by decide +kernel), gw_in 388 (by decide +kernel) (by decide +kernel), by decide +kernel, by decide +kernel, by decide +kernel, by decide⟩, _, rfl, rfl⟩
abbrev mX5_takesPart : gx_M := (yX5_takesPart, cX5_takesPart, 3, some .boolean)
theorem vX5_takesPart : gx_MV mX5_takesPart 2 ∧ gx_mc mX5_takesPart 5 := ⟨⟨gw_in 391 (by decide +kernel) (by decide +kernel), gw_in 1 (by decide +kernel) (by decide +kernel), gw_in 50 (by decide +kernel) (by decide +kernel), gw_in 392 (by decide +kernel) (by decide +kernel), by decide +kernel, by decide +kernel, by decide +kernel, by decide⟩, _, rfl, rfl⟩
abbrev mX5_takesFigure : gx_M := (yX5_takesFigure, cX5_takesFigure, 3, some .boolean)
theorem vX5_takesFigure : gx_MV mX5_takesFigure 2 ∧ gx_mc mX5_takesFigure 5 := ⟨⟨gw_in 407 (by decide +kernel) (by decide +kernel), gw_in 2 (by decide +kernel) (by decide +kernel), gw_in 50 (by decide +kernel) (by decide +kernel), gw_in 408 (by decide +kernel) (by decide +kernel), by decide +kernel, by decide +kernel, by decide +kernel, by decide⟩, _, rfl, rfl⟩
abbrev mX5_endsPart : gx_M := (yX5_endsPart, cX5_endsPart, 4, some .boolean)
theorem vX5_endsPart : gx_MV mX5_endsPart 2 ∧ gx_mc mX5_endsPart 5 := ⟨⟨gw_in 412 (by decide +kernel) (by decide +kernel), gw_in 3 (by decide +kernel) (by decide +kernel), gw_in 50 (by decide +kernel) (by decide +kernel), gw_in 413 (by decide +kernel) (by decide +kernel), by decide +kernel, by decide +kernel, by decide +kernel, by decide⟩, _, rfl, rfl⟩
abbrev mX5_takesSeat : gx_M := (yX5_takesSeat, cX5_takesSeat, 3, some .boolean)
theorem vX5_takesSeat : gx_MV mX5_takesSeat 2 ∧ gx_mc mX5_takesSeat 5 := ⟨⟨gw_in 416 (by decide +kernel) (by decide +kernel), gw_in 4 (by decide +kernel) (by decide +kernel), gw_in 50 (by decide +kernel) (by decide +kernel), gw_in 417 (by decide +kernel) (by decide +kernel), by decide +kernel, by decide +kernel, by decide +kernel, by decide⟩, _, rfl, rfl⟩
abbrev mX6_init : gx_M := (yX6_init, cX6_init, 4, none)
abbrev mX6_startAnew : gx_M := (yX6_startAnew, cX6_startAnew, 1, none)
theorem vX6_startAnew : gx_MV mX6_startAnew 0 ∧ gx_mc mX6_startAnew 6 := ⟨⟨gw_in 598 (by decide +kernel) (by decide +kernel), gw_in 599 (by decide +kernel) (by decide +kernel), gw_in 57 (by decide +kernel) (by decide +kernel), gw_in 600 (by decide +kernel) (by decide +kernel), by decide +kernel, by decide +kernel, by decide +kernel, by decide⟩, _, rfl, rfl⟩
abbrev mX6_tryPours : gx_M := (yX6_tryPours, cX6_tryPours, 7, none)
theorem vX6_tryPours : gx_MV mX6_tryPours 3 ∧ gx_mc mX6_tryPours 6 := ⟨⟨gw_in 602 (by decide +kernel) (by decide +kernel), gw_in 603 (by decide +kernel) (by decide +kernel), gw_in 57 (by decide +kernel) (by decide +kernel), gw_in 604 (by decide +kernel) (by decide +kernel), by decide +kernel, by decide +kernel, by decide +kernel, by decide⟩, _, rfl, rfl⟩
abbrev mX6_roomBehind : gx_M := (yX6_roomBehind, cX6_roomBehind, 4, some .int)
theorem vX6_roomBehind : gx_MV mX6_roomBehind 1 ∧ gx_mc mX6_roomBehind 6 := ⟨⟨gw_in 620 (by decide +kernel) (by decide +kernel), gw_in 10 (by decide +kernel) (by decide +kernel), gw_in 57 (by decide +kernel) (by decide +kernel), gw_in 621 (by decide +kernel) (by decide +kernel), by decide +kernel, by decide +kernel, by decide +kernel, by decide⟩, _, rfl, rfl⟩
abbrev mX6_weighPours : gx_M := (yX6_weighPours, cX6_weighPours, 3, none)
theorem vX6_weighPours : gx_MV mX6_weighPours 1 ∧ gx_mc mX6_weighPours 6 := ⟨⟨gw_in 608 (by decide +kernel) (by decide +kernel), gw_in 8 (by decide +kernel) (by decide +kernel), gw_in 57 (by decide +kernel) (by decide +kernel), gw_in 609 (by decide +kernel) (by decide +kernel), by decide +kernel, by decide +kernel, by decide +kernel, by decide⟩, _, rfl, rfl⟩
abbrev mX6_keepLess : gx_M := (yX6_keepLess, cX6_keepLess, 3, none)
theorem vX6_keepLess : gx_MV mX6_keepLess 2 ∧ gx_mc mX6_keepLess 6 := ⟨⟨gw_in 616 (by decide +kernel) (by decide +kernel), gw_in 9 (by decide +kernel) (by decide +kernel), gw_in 57 (by decide +kernel) (by decide +kernel), gw_in 617 (by decide +kernel) (by decide +kernel), by decide +kernel, by decide +kernel, by decide +kernel, by decide⟩, _, rfl, rfl⟩
abbrev mX6_fewestForWake : gx_M := (yX6_fewestForWake, cX6_fewestForWake, 4, some .int)
theorem vX6_fewestForWake : gx_MV mX6_fewestForWake 0 ∧ gx_mc mX6_fewestForWake 6 := ⟨⟨gw_in 631 (by decide +kernel) (by decide +kernel), gw_in 632 (by decide +kernel) (by decide +kernel), gw_in 57 (by decide +kernel) (by decide +kernel), gw_in 633 (by decide +kernel) (by decide +kernel), by decide +kernel, by decide +kernel, by decide +kernel, by decide⟩, _, rfl, rfl⟩
abbrev mX6_isEnough : gx_M := (yX6_isEnough, cX6_isEnough, 2, some .boolean)
theorem vX6_isEnough : gx_MV mX6_isEnough 1 ∧ gx_mc mX6_isEnough 6 := ⟨⟨gw_in 642 (by decide +kernel) (by decide +kernel), gw_in 11 (by decide +kernel) (by decide +kernel), gw_in 57 (by decide +kernel) (by decide +kernel), gw_in 643 (by decide +kernel) (by decide +kernel), by decide +kernel, by decide +kernel, by decide +kernel, by decide⟩, _, rfl, rfl⟩
abbrev mX6_tryTurns : gx_M := (yX6_tryTurns, cX6_tryTurns, 5, none)
theorem vX6_tryTurns : gx_MV mX6_tryTurns 3 ∧ gx_mc mX6_tryTurns 6 := ⟨⟨gw_in 657 (by decide +kernel) (by decide +kernel), gw_in 658 (by decide +kernel) (by decide +kernel), gw_in 57 (by decide +kernel) (by decide +kernel), gw_in 659 (by decide +kernel) (by decide +kernel), by decide +kernel, by decide +kernel, by decide +kernel, by decide⟩, _, rfl, rfl⟩
abbrev mX6_weighTurns : gx_M := (yX6_weighTurns, cX6_weighTurns, 3, none)
theorem vX6_weighTurns : gx_MV mX6_weighTurns 1 ∧ gx_mc mX6_weighTurns 6 := ⟨⟨gw_in 662 (by decide +kernel) (by decide +kernel), gw_in 12 (by decide +kernel) (by decide +kernel), gw_in 57 (by decide +kernel) (by decide +kernel), gw_in 663 (by decide +kernel) (by decide +kernel), by decide +kernel, by decide +kernel, by decide +kernel, by decide⟩, _, rfl, rfl⟩
abbrev mX7_init : gx_M := (yX7_init, cX7_init, 1, none)
abbrev mX7_add : gx_M := (yX7_add, cX7_add, 4, some .int)
theorem vX7_add : gx_MV mX7_add 3 ∧ gx_mc mX7_add 7 := ⟨⟨gw_in 693 (by decide +kernel) (by decide +kernel), gw_in 694 (by decide +kernel) (by decide +kernel), gw_in 56 (by decide +kernel) (by decide +kernel), gw_in 695 (by decide +kernel) (by decide +kernel), by decide +kernel, by decide +kernel, by decide +kernel, by decide⟩, _, rfl, rfl⟩
abbrev mX7_thirstsOf : gx_M := (yX7_thirstsOf, cX7_thirstsOf, 5, some .int)
theorem vX7_thirstsOf : gx_MV mX7_thirstsOf 2 ∧ gx_mc mX7_thirstsOf 7 := ⟨⟨gw_in 705 (by decide +kernel) (by decide +kernel), gw_in 706 (by decide +kernel) (by decide +kernel), gw_in 56 (by decide +kernel) (by decide +kernel), gw_in 707 (by decide +kernel) (by decide +kernel), by decide +kernel, by decide +kernel, by decide +kernel, by decide⟩, _, rfl, rfl⟩
abbrev mX7_fits : gx_M := (yX7_fits, cX7_fits, 5, some .boolean)
theorem vX7_fits : gx_MV mX7_fits 3 ∧ gx_mc mX7_fits 7 := ⟨⟨gw_in 710 (by decide +kernel) (by decide +kernel), gw_in 13 (by decide +kernel) (by decide +kernel), gw_in 56 (by decide +kernel) (by decide +kernel), gw_in 711 (by decide +kernel) (by decide +kernel), by decide +kernel, by decide +kernel, by decide +kernel, by decide⟩, _, rfl, rfl⟩
abbrev mX8_init : gx_M := (yX8_init, cX8_init, 2, none)
abbrev mX8_lay : gx_M := (yX8_lay, cX8_lay, 4, none)
theorem vX8_lay : gx_MV mX8_lay 2 ∧ gx_mc mX8_lay 8 := ⟨⟨gw_in 516 (by decide +kernel) (by decide +kernel), gw_in 517 (by decide +kernel) (by decide +kernel), gw_in 54 (by decide +kernel) (by decide +kernel), gw_in 518 (by decide +kernel) (by decide +kernel), by decide +kernel, by decide +kernel, by decide +kernel, by decide⟩, _, rfl, rfl⟩
abbrev mX8_fetch : gx_M := (yX8_fetch, cX8_fetch, 4, none)
theorem vX8_fetch : gx_MV mX8_fetch 2 ∧ gx_mc mX8_fetch 8 := ⟨⟨gw_in 568 (by decide +kernel) (by decide +kernel), gw_in 569 (by decide +kernel) (by decide +kernel), gw_in 54 (by decide +kernel) (by decide +kernel), gw_in 570 (by decide +kernel) (by decide +kernel), by decide +kernel, by decide +kernel, by decide +kernel, by decide⟩, _, rfl, rfl⟩
abbrev mX9_init : gx_M := (yX9_init, cX9_init, 2, none)
abbrev mX9_copyFrom : gx_M := (yX9_copyFrom, cX9_copyFrom, 2, none)
theorem vX9_copyFrom : gx_MV mX9_copyFrom 1 ∧ gx_mc mX9_copyFrom 9 := ⟨⟨gw_in 491 (by decide +kernel) (by decide +kernel), gw_in 492 (by decide +kernel) (by decide +kernel), gw_in 52 (by decide +kernel) (by decide +kernel), gw_in 493 (by decide +kernel) (by decide +kernel), by decide +kernel, by decide +kernel, by decide +kernel, by decide⟩, _, rfl, rfl⟩
abbrev mX9_openAnew : gx_M := (yX9_openAnew, cX9_openAnew, 2, none)
theorem vX9_openAnew : gx_MV mX9_openAnew 0 ∧ gx_mc mX9_openAnew 9 := ⟨⟨gw_in 446 (by decide +kernel) (by decide +kernel), gw_in 447 (by decide +kernel) (by decide +kernel), gw_in 52 (by decide +kernel) (by decide +kernel), gw_in 448 (by decide +kernel) (by decide +kernel), by decide +kernel, by decide +kernel, by decide +kernel, by decide⟩, _, rfl, rfl⟩
abbrev mX9_taxOf : gx_M := (yX9_taxOf, cX9_taxOf, 5, some .int)
theorem vX9_taxOf : gx_MV mX9_taxOf 1 ∧ gx_mc mX9_taxOf 9 := ⟨⟨gw_in 459 (by decide +kernel) (by decide +kernel), gw_in 460 (by decide +kernel) (by decide +kernel), gw_in 52 (by decide +kernel) (by decide +kernel), gw_in 461 (by decide +kernel) (by decide +kernel), by decide +kernel, by decide +kernel, by decide +kernel, by decide⟩, _, rfl, rfl⟩
abbrev mX9_taxes : gx_M := (yX9_taxes, cX9_taxes, 3, some .int)
theorem vX9_taxes : gx_MV mX9_taxes 0 ∧ gx_mc mX9_taxes 9 := ⟨⟨gw_in 555 (by decide +kernel) (by decide +kernel), gw_in 556 (by decide +kernel) (by decide +kernel), gw_in 52 (by decide +kernel) (by decide +kernel), gw_in 557 (by decide +kernel) (by decide +kernel), by decide +kernel, by decide +kernel, by decide +kernel, by decide⟩, _, rfl, rfl⟩
abbrev mX9_thirstOfAll : gx_M := (yX9_thirstOfAll, cX9_thirstOfAll, 3, some .int)
theorem vX9_thirstOfAll : gx_MV mX9_thirstOfAll 0 ∧ gx_mc mX9_thirstOfAll 9 := ⟨⟨gw_in 590 (by decide +kernel) (by decide +kernel), gw_in 591 (by decide +kernel) (by decide +kernel), gw_in 52 (by decide +kernel) (by decide +kernel), gw_in 592 (by decide +kernel) (by decide +kernel), by decide +kernel, by decide +kernel, by decide +kernel, by decide⟩, _, rfl, rfl⟩
abbrev mX9_roomIn : gx_M := (yX9_roomIn, cX9_roomIn, 2, some .int)
theorem vX9_roomIn : gx_MV mX9_roomIn 1 ∧ gx_mc mX9_roomIn 9 := ⟨⟨gw_in 501 (by decide +kernel) (by decide +kernel), gw_in 502 (by decide +kernel) (by decide +kernel), gw_in 52 (by decide +kernel) (by decide +kernel), gw_in 503 (by decide +kernel) (by decide +kernel), by decide +kernel, by decide +kernel, by decide +kernel, by decide⟩, _, rfl, rfl⟩
abbrev mX9_firstGulp : gx_M := (yX9_firstGulp, cX9_firstGulp, 3, some .int)
theorem vX9_firstGulp : gx_MV mX9_firstGulp 1 ∧ gx_mc mX9_firstGulp 9 := ⟨⟨gw_in 479 (by decide +kernel) (by decide +kernel), gw_in 480 (by decide +kernel) (by decide +kernel), gw_in 52 (by decide +kernel) (by decide +kernel), gw_in 481 (by decide +kernel) (by decide +kernel), by decide +kernel, by decide +kernel, by decide +kernel, by decide⟩, _, rfl, rfl⟩
abbrev mX9_pourInto : gx_M := (yX9_pourInto, cX9_pourInto, 4, some .int)
theorem vX9_pourInto : gx_MV mX9_pourInto 2 ∧ gx_mc mX9_pourInto 9 := ⟨⟨gw_in 496 (by decide +kernel) (by decide +kernel), gw_in 497 (by decide +kernel) (by decide +kernel), gw_in 52 (by decide +kernel) (by decide +kernel), gw_in 498 (by decide +kernel) (by decide +kernel), by decide +kernel, by decide +kernel, by decide +kernel, by decide⟩, _, rfl, rfl⟩
abbrev mX9_drinkAt : gx_M := (yX9_drinkAt, cX9_drinkAt, 3, some .int)
theorem vX9_drinkAt : gx_MV mX9_drinkAt 2 ∧ gx_mc mX9_drinkAt 9 := ⟨⟨gw_in 526 (by decide +kernel) (by decide +kernel), gw_in 527 (by decide +kernel) (by decide +kernel), gw_in 52 (by decide +kernel) (by decide +kernel), gw_in 528 (by decide +kernel) (by decide +kernel), by decide +kernel, by decide +kernel, by decide +kernel, by decide⟩, _, rfl, rfl⟩
abbrev mX9_tipOver : gx_M := (yX9_tipOver, cX9_tipOver, 4, some .int)
theorem vX9_tipOver : gx_MV mX9_tipOver 2 ∧ gx_mc mX9_tipOver 9 := ⟨⟨gw_in 539 (by decide +kernel) (by decide +kernel), gw_in 540 (by decide +kernel) (by decide +kernel), gw_in 52 (by decide +kernel) (by decide +kernel), gw_in 541 (by decide +kernel) (by decide +kernel), by decide +kernel, by decide +kernel, by decide +kernel, by decide⟩, _, rfl, rfl⟩
abbrev mX9_passHour : gx_M := (yX9_passHour, cX9_passHour, 2, some .int)
theorem vX9_passHour : gx_MV mX9_passHour 0 ∧ gx_mc mX9_passHour 9 := ⟨⟨gw_in 547 (by decide +kernel) (by decide +kernel), gw_in 548 (by decide +kernel) (by decide +kernel), gw_in 52 (by decide +kernel) (by decide +kernel), gw_in 549 (by decide +kernel) (by decide +kernel), by decide +kernel, by decide +kernel, by decide +kernel, by decide⟩, _, rfl, rfl⟩
abbrev mX9_ageByHour : gx_M := (yX9_ageByHour, cX9_ageByHour, 2, none)
theorem vX9_ageByHour : gx_MV mX9_ageByHour 1 ∧ gx_mc mX9_ageByHour 9 := ⟨⟨gw_in 552 (by decide +kernel) (by decide +kernel), gw_in 7 (by decide +kernel) (by decide +kernel), gw_in 52 (by decide +kernel) (by decide +kernel), gw_in 553 (by decide +kernel) (by decide +kernel), by decide +kernel, by decide +kernel, by decide +kernel, by decide⟩, _, rfl, rfl⟩
abbrev mX9_told : gx_M := (yX9_told, cX9_told, 4, some .int)
theorem vX9_told : gx_MV mX9_told 1 ∧ gx_mc mX9_told 9 := ⟨⟨gw_in 681 (by decide +kernel) (by decide +kernel), gw_in 682 (by decide +kernel) (by decide +kernel), gw_in 52 (by decide +kernel) (by decide +kernel), gw_in 683 (by decide +kernel) (by decide +kernel), by decide +kernel, by decide +kernel, by decide +kernel, by decide⟩, _, rfl, rfl⟩
abbrev mX9_passChance : gx_M := (yX9_passChance, cX9_passChance, 2, none)
theorem vX9_passChance : gx_MV mX9_passChance 1 ∧ gx_mc mX9_passChance 9 := ⟨⟨gw_in 798 (by decide +kernel) (by decide +kernel), gw_in 799 (by decide +kernel) (by decide +kernel), gw_in 52 (by decide +kernel) (by decide +kernel), gw_in 800 (by decide +kernel) (by decide +kernel), by decide +kernel, by decide +kernel, by decide +kernel, by decide⟩, _, rfl, rfl⟩
abbrev mX9_passEvening : gx_M := (yX9_passEvening, cX9_passEvening, 3, none)
theorem vX9_passEvening : gx_MV mX9_passEvening 1 ∧ gx_mc mX9_passEvening 9 := ⟨⟨gw_in 576 (by decide +kernel) (by decide +kernel), gw_in 577 (by decide +kernel) (by decide +kernel), gw_in 52 (by decide +kernel) (by decide +kernel), gw_in 578 (by decide +kernel) (by decide +kernel), by decide +kernel, by decide +kernel, by decide +kernel, by decide⟩, _, rfl, rfl⟩
abbrev mX9_drinkAround : gx_M := (yX9_drinkAround, cX9_drinkAround, 4, none)
theorem vX9_drinkAround : gx_MV mX9_drinkAround 1 ∧ gx_mc mX9_drinkAround 9 := ⟨⟨gw_in 581 (by decide +kernel) (by decide +kernel), gw_in 582 (by decide +kernel) (by decide +kernel), gw_in 52 (by decide +kernel) (by decide +kernel), gw_in 583 (by decide +kernel) (by decide +kernel), by decide +kernel, by decide +kernel, by decide +kernel, by decide⟩, _, rfl, rfl⟩
abbrev mX9_swallow : gx_M := (yX9_swallow, cX9_swallow, 4, some .int)
theorem vX9_swallow : gx_MV mX9_swallow 2 ∧ gx_mc mX9_swallow 9 := ⟨⟨gw_in 532 (by decide +kernel) (by decide +kernel), gw_in 6 (by decide +kernel) (by decide +kernel), gw_in 52 (by decide +kernel) (by decide +kernel), gw_in 533 (by decide +kernel) (by decide +kernel), by decide +kernel, by decide +kernel, by decide +kernel, by decide⟩, _, rfl, rfl⟩
abbrev mX9_fillOnly : gx_M := (yX9_fillOnly, cX9_fillOnly, 3, none)
theorem vX9_fillOnly : gx_MV mX9_fillOnly 1 ∧ gx_mc mX9_fillOnly 9 := ⟨⟨gw_in 645 (by decide +kernel) (by decide +kernel), gw_in 646 (by decide +kernel) (by decide +kernel), gw_in 52 (by decide +kernel) (by decide +kernel), gw_in 647 (by decide +kernel) (by decide +kernel), by decide +kernel, by decide +kernel, by decide +kernel, by decide⟩, _, rfl, rfl⟩
abbrev mX9_isQuenched : gx_M := (yX9_isQuenched, cX9_isQuenched, 2, some .boolean)
theorem vX9_isQuenched : gx_MV mX9_isQuenched 0 ∧ gx_mc mX9_isQuenched 9 := ⟨⟨gw_in 649 (by decide +kernel) (by decide +kernel), gw_in 650 (by decide +kernel) (by decide +kernel), gw_in 52 (by decide +kernel) (by decide +kernel), gw_in 651 (by decide +kernel) (by decide +kernel), by decide +kernel, by decide +kernel, by decide +kernel, by decide⟩, _, rfl, rfl⟩
abbrev mX10_init : gx_M := (yX10_init, cX10_init, 1, none)
abbrev mX10_write : gx_M := (yX10_write, cX10_write, 2, some .int)
theorem vX10_write : gx_MV mX10_write 1 ∧ gx_mc mX10_write 10 := ⟨⟨gw_in 362 (by decide +kernel) (by decide +kernel), gw_in 363 (by decide +kernel) (by decide +kernel), gw_in 48 (by decide +kernel) (by decide +kernel), gw_in 364 (by decide +kernel) (by decide +kernel), by decide +kernel, by decide +kernel, by decide +kernel, by decide⟩, _, rfl, rfl⟩
abbrev mX10_wipe : gx_M := (yX10_wipe, cX10_wipe, 2, some .int)
theorem vX10_wipe : gx_MV mX10_wipe 0 ∧ gx_mc mX10_wipe 10 := ⟨⟨gw_in 370 (by decide +kernel) (by decide +kernel), gw_in 371 (by decide +kernel) (by decide +kernel), gw_in 48 (by decide +kernel) (by decide +kernel), gw_in 372 (by decide +kernel) (by decide +kernel), by decide +kernel, by decide +kernel, by decide +kernel, by decide⟩, _, rfl, rfl⟩
abbrev mX10_fault : gx_M := (yX10_fault, cX10_fault, 1, some .int)
theorem vX10_fault : gx_MV mX10_fault 0 ∧ gx_mc mX10_fault 10 := ⟨⟨gw_in 374 (by decide +kernel) (by decide +kernel), gw_in 375 (by decide +kernel) (by decide +kernel), gw_in 48 (by decide +kernel) (by decide +kernel), gw_in 376 (by decide +kernel) (by decide +kernel), by decide +kernel, by decide +kernel, by decide +kernel, by decide⟩, _, rfl, rfl⟩
abbrev mX10_inn : gx_M := (yX10_inn, cX10_inn, 1, some .int)
theorem vX10_inn : gx_MV mX10_inn 0 ∧ gx_mc mX10_inn 10 := ⟨⟨gw_in 435 (by decide +kernel) (by decide +kernel), gw_in 436 (by decide +kernel) (by decide +kernel), gw_in 48 (by decide +kernel) (by decide +kernel), gw_in 437 (by decide +kernel) (by decide +kernel), by decide +kernel, by decide +kernel, by decide +kernel, by decide⟩, _, rfl, rfl⟩
abbrev mX10_glass : gx_M := (yX10_glass, cX10_glass, 3, some .int)
theorem vX10_glass : gx_MV mX10_glass 2 ∧ gx_mc mX10_glass 10 := ⟨⟨gw_in 454 (by decide +kernel) (by decide +kernel), gw_in 455 (by decide +kernel) (by decide +kernel), gw_in 48 (by decide +kernel) (by decide +kernel), gw_in 456 (by decide +kernel) (by decide +kernel), by decide +kernel, by decide +kernel, by decide +kernel, by decide⟩, _, rfl, rfl⟩
abbrev mX10_drinker : gx_M := (yX10_drinker, cX10_drinker, 3, some .int)
theorem vX10_drinker : gx_MV mX10_drinker 2 ∧ gx_mc mX10_drinker 10 := ⟨⟨gw_in 474 (by decide +kernel) (by decide +kernel), gw_in 475 (by decide +kernel) (by decide +kernel), gw_in 48 (by decide +kernel) (by decide +kernel), gw_in 476 (by decide +kernel) (by decide +kernel), by decide +kernel, by decide +kernel, by decide +kernel, by decide⟩, _, rfl, rfl⟩
abbrev mX10_pour : gx_M := (yX10_pour, cX10_pour, 3, some .int)
theorem vX10_pour : gx_MV mX10_pour 2 ∧ gx_mc mX10_pour 10 := ⟨⟨gw_in 487 (by decide +kernel) (by decide +kernel), gw_in 488 (by decide +kernel) (by decide +kernel), gw_in 48 (by decide +kernel) (by decide +kernel), gw_in 489 (by decide +kernel) (by decide +kernel), by decide +kernel, by decide +kernel, by decide +kernel, by decide⟩, _, rfl, rfl⟩
abbrev mX10_drink : gx_M := (yX10_drink, cX10_drink, 3, some .int)
theorem vX10_drink : gx_MV mX10_drink 2 ∧ gx_mc mX10_drink 10 := ⟨⟨gw_in 522 (by decide +kernel) (by decide +kernel), gw_in 523 (by decide +kernel) (by decide +kernel), gw_in 48 (by decide +kernel) (by decide +kernel), gw_in 524 (by decide +kernel) (by decide +kernel), by decide +kernel, by decide +kernel, by decide +kernel, by decide⟩, _, rfl, rfl⟩
abbrev mX10_tip : gx_M := (yX10_tip, cX10_tip, 3, some .int)
theorem vX10_tip : gx_MV mX10_tip 2 ∧ gx_mc mX10_tip 10 := ⟨⟨gw_in 535 (by decide +kernel) (by decide +kernel), gw_in 536 (by decide +kernel) (by decide +kernel), gw_in 48 (by decide +kernel) (by decide +kernel), gw_in 537 (by decide +kernel) (by decide +kernel), by decide +kernel, by decide +kernel, by decide +kernel, by decide⟩, _, rfl, rfl⟩
abbrev mX10_hour : gx_M := (yX10_hour, cX10_hour, 1, some .int)
theorem vX10_hour : gx_MV mX10_hour 0 ∧ gx_mc mX10_hour 10 := ⟨⟨gw_in 543 (by decide +kernel) (by decide +kernel), gw_in 544 (by decide +kernel) (by decide +kernel), gw_in 48 (by decide +kernel) (by decide +kernel), gw_in 545 (by decide +kernel) (by decide +kernel), by decide +kernel, by decide +kernel, by decide +kernel, by decide⟩, _, rfl, rfl⟩
abbrev mX10_acted : gx_M := (yX10_acted, cX10_acted, 2, some .int)
theorem vX10_acted : gx_MV mX10_acted 1 ∧ gx_mc mX10_acted 10 := ⟨⟨gw_in 509 (by decide +kernel) (by decide +kernel), gw_in 5 (by decide +kernel) (by decide +kernel), gw_in 48 (by decide +kernel) (by decide +kernel), gw_in 510 (by decide +kernel) (by decide +kernel), by decide +kernel, by decide +kernel, by decide +kernel, by decide⟩, _, rfl, rfl⟩
abbrev mX10_undo : gx_M := (yX10_undo, cX10_undo, 1, some .int)
theorem vX10_undo : gx_MV mX10_undo 0 ∧ gx_mc mX10_undo 10 := ⟨⟨gw_in 560 (by decide +kernel) (by decide +kernel), gw_in 561 (by decide +kernel) (by decide +kernel), gw_in 48 (by decide +kernel) (by decide +kernel), gw_in 562 (by decide +kernel) (by decide +kernel), by decide +kernel, by decide +kernel, by decide +kernel, by decide⟩, _, rfl, rfl⟩
abbrev mX10_left : gx_M := (yX10_left, cX10_left, 2, some .int)
theorem vX10_left : gx_MV mX10_left 1 ∧ gx_mc mX10_left 10 := ⟨⟨gw_in 572 (by decide +kernel) (by decide +kernel), gw_in 573 (by decide +kernel) (by decide +kernel), gw_in 48 (by decide +kernel) (by decide +kernel), gw_in 574 (by decide +kernel) (by decide +kernel), by decide +kernel, by decide +kernel, by decide +kernel, by decide⟩, _, rfl, rfl⟩
abbrev mX10_evening : gx_M := (yX10_evening, cX10_evening, 2, some .int)
theorem vX10_evening : gx_MV mX10_evening 1 ∧ gx_mc mX10_evening 10 := ⟨⟨gw_in 585 (by decide +kernel) (by decide +kernel), gw_in 586 (by decide +kernel) (by decide +kernel), gw_in 48 (by decide +kernel) (by decide +kernel), gw_in 587 (by decide +kernel) (by decide +kernel), by decide +kernel, by decide +kernel, by decide +kernel, by decide⟩, _, rfl, rfl⟩
abbrev mX10_pouring : gx_M := (yX10_pouring, cX10_pouring, 3, some .int)
theorem vX10_pouring : gx_MV mX10_pouring 2 ∧ gx_mc mX10_pouring 10 := ⟨⟨gw_in 594 (by decide +kernel) (by decide +kernel), gw_in 595 (by decide +kernel) (by decide +kernel), gw_in 48 (by decide +kernel) (by decide +kernel), gw_in 596 (by decide +kernel) (by decide +kernel), by decide +kernel, by decide +kernel, by decide +kernel, by decide⟩, _, rfl, rfl⟩
abbrev mX10_wake : gx_M := (yX10_wake, cX10_wake, 1, some .int)
theorem vX10_wake : gx_MV mX10_wake 0 ∧ gx_mc mX10_wake 10 := ⟨⟨gw_in 627 (by decide +kernel) (by decide +kernel), gw_in 628 (by decide +kernel) (by decide +kernel), gw_in 48 (by decide +kernel) (by decide +kernel), gw_in 629 (by decide +kernel) (by decide +kernel), by decide +kernel, by decide +kernel, by decide +kernel, by decide⟩, _, rfl, rfl⟩
abbrev mX10_order : gx_M := (yX10_order, cX10_order, 2, some .int)
theorem vX10_order : gx_MV mX10_order 1 ∧ gx_mc mX10_order 10 := ⟨⟨gw_in 653 (by decide +kernel) (by decide +kernel), gw_in 654 (by decide +kernel) (by decide +kernel), gw_in 48 (by decide +kernel) (by decide +kernel), gw_in 655 (by decide +kernel) (by decide +kernel), by decide +kernel, by decide +kernel, by decide +kernel, by decide⟩, _, rfl, rfl⟩
abbrev mX10_hall : gx_M := (yX10_hall, cX10_hall, 3, some .int)
theorem vX10_hall : gx_MV mX10_hall 1 ∧ gx_mc mX10_hall 10 := ⟨⟨gw_in 669 (by decide +kernel) (by decide +kernel), gw_in 670 (by decide +kernel) (by decide +kernel), gw_in 48 (by decide +kernel) (by decide +kernel), gw_in 671 (by decide +kernel) (by decide +kernel), by decide +kernel, by decide +kernel, by decide +kernel, by decide⟩, _, rfl, rfl⟩
abbrev mX10_judge : gx_M := (yX10_judge, cX10_judge, 7, some .int)
theorem vX10_judge : gx_MV mX10_judge 2 ∧ gx_mc mX10_judge 10 := ⟨⟨gw_in 673 (by decide +kernel) (by decide +kernel), gw_in 674 (by decide +kernel) (by decide +kernel), gw_in 48 (by decide +kernel) (by decide +kernel), gw_in 675 (by decide +kernel) (by decide +kernel), by decide +kernel, by decide +kernel, by decide +kernel, by decide⟩, _, rfl, rfl⟩
abbrev mX10_see : gx_M := (yX10_see, cX10_see, 4, some .int)
theorem vX10_see : gx_MV mX10_see 3 ∧ gx_mc mX10_see 10 := ⟨⟨gw_in 689 (by decide +kernel) (by decide +kernel), gw_in 690 (by decide +kernel) (by decide +kernel), gw_in 48 (by decide +kernel) (by decide +kernel), gw_in 691 (by decide +kernel) (by decide +kernel), by decide +kernel, by decide +kernel, by decide +kernel, by decide⟩, _, rfl, rfl⟩
abbrev mX10_unsee : gx_M := (yX10_unsee, cX10_unsee, 2, some .int)
theorem vX10_unsee : gx_MV mX10_unsee 0 ∧ gx_mc mX10_unsee 10 := ⟨⟨gw_in 697 (by decide +kernel) (by decide +kernel), gw_in 698 (by decide +kernel) (by decide +kernel), gw_in 48 (by decide +kernel) (by decide +kernel), gw_in 699 (by decide +kernel) (by decide +kernel), by decide +kernel, by decide +kernel, by decide +kernel, by decide⟩, _, rfl, rfl⟩
abbrev mX10_thirsts : gx_M := (yX10_thirsts, cX10_thirsts, 2, some .int)
theorem vX10_thirsts : gx_MV mX10_thirsts 1 ∧ gx_mc mX10_thirsts 10 := ⟨⟨gw_in 701 (by decide +kernel) (by decide +kernel), gw_in 702 (by decide +kernel) (by decide +kernel), gw_in 48 (by decide +kernel) (by decide +kernel), gw_in 703 (by decide +kernel) (by decide +kernel), by decide +kernel, by decide +kernel, by decide +kernel, by decide⟩, _, rfl, rfl⟩
abbrev mX10_share : gx_M := (yX10_share, cX10_share, 3, some .int)
theorem vX10_share : gx_MV mX10_share 2 ∧ gx_mc mX10_share 10 := ⟨⟨gw_in 714 (by decide +kernel) (by decide +kernel), gw_in 715 (by decide +kernel) (by decide +kernel), gw_in 48 (by decide +kernel) (by decide +kernel), gw_in 716 (by decide +kernel) (by decide +kernel), by decide +kernel, by decide +kernel, by decide +kernel, by decide⟩, _, rfl, rfl⟩
abbrev mX10_rests : gx_M := (yX10_rests, cX10_rests, 4, some .int)
theorem vX10_rests : gx_MV mX10_rests 3 ∧ gx_mc mX10_rests 10 := ⟨⟨gw_in 750 (by decide +kernel) (by decide +kernel), gw_in 751 (by decide +kernel) (by decide +kernel), gw_in 48 (by decide +kernel) (by decide +kernel), gw_in 752 (by decide +kernel) (by decide +kernel), by decide +kernel, by decide +kernel, by decide +kernel, by decide⟩, _, rfl, rfl⟩
abbrev mX10_leak : gx_M := (yX10_leak, cX10_leak, 4, some .int)
theorem vX10_leak : gx_MV mX10_leak 3 ∧ gx_mc mX10_leak 10 := ⟨⟨gw_in 772 (by decide +kernel) (by decide +kernel), gw_in 773 (by decide +kernel) (by decide +kernel), gw_in 48 (by decide +kernel) (by decide +kernel), gw_in 774 (by decide +kernel) (by decide +kernel), by decide +kernel, by decide +kernel, by decide +kernel, by decide⟩, _, rfl, rfl⟩
abbrev mX10_seed : gx_M := (yX10_seed, cX10_seed, 5, some .long)
theorem vX10_seed : gx_MV mX10_seed 1 ∧ gx_mc mX10_seed 10 := ⟨⟨gw_in 787 (by decide +kernel) (by decide +kernel), gw_in 788 (by decide +kernel) (by decide +kernel), gw_in 48 (by decide +kernel) (by decide +kernel), gw_in 789 (by decide +kernel) (by decide +kernel), by decide +kernel, by decide +kernel, by decide +kernel, by decide⟩, _, rfl, rfl⟩
abbrev mX10_nights : gx_M := (yX10_nights, cX10_nights, 4, some .int)
theorem vX10_nights : gx_MV mX10_nights 1 ∧ gx_mc mX10_nights 10 := ⟨⟨gw_in 791 (by decide +kernel) (by decide +kernel), gw_in 792 (by decide +kernel) (by decide +kernel), gw_in 48 (by decide +kernel) (by decide +kernel), gw_in 793 (by decide +kernel) (by decide +kernel), by decide +kernel, by decide +kernel, by decide +kernel, by decide⟩, _, rfl, rfl⟩
abbrev mX10_keep : gx_M := (yX10_keep, cX10_keep, 2, some .int)
theorem vX10_keep : gx_MV mX10_keep 1 ∧ gx_mc mX10_keep 10 := ⟨⟨gw_in 802 (by decide +kernel) (by decide +kernel), gw_in 803 (by decide +kernel) (by decide +kernel), gw_in 48 (by decide +kernel) (by decide +kernel), gw_in 804 (by decide +kernel) (by decide +kernel), by decide +kernel, by decide +kernel, by decide +kernel, by decide⟩, _, rfl, rfl⟩
abbrev mX10_again : gx_M := (yX10_again, cX10_again, 2, some .int)
theorem vX10_again : gx_MV mX10_again 1 ∧ gx_mc mX10_again 10 := ⟨⟨gw_in 807 (by decide +kernel) (by decide +kernel), gw_in 808 (by decide +kernel) (by decide +kernel), gw_in 48 (by decide +kernel) (by decide +kernel), gw_in 809 (by decide +kernel) (by decide +kernel), by decide +kernel, by decide +kernel, by decide +kernel, by decide⟩, _, rfl, rfl⟩
abbrev mX10_count : gx_M := (yX10_count, cX10_count, 2, some .int)
theorem vX10_count : gx_MV mX10_count 1 ∧ gx_mc mX10_count 10 := ⟨⟨gw_in 813 (by decide +kernel) (by decide +kernel), gw_in 814 (by decide +kernel) (by decide +kernel), gw_in 48 (by decide +kernel) (by decide +kernel), gw_in 815 (by decide +kernel) (by decide +kernel), by decide +kernel, by decide +kernel, by decide +kernel, by decide⟩, _, rfl, rfl⟩
abbrev mX10_hasBit : gx_M := (yX10_hasBit, cX10_hasBit, 2, some .boolean)
theorem sX10_hasBit : gx_MS mX10_hasBit 2 := ⟨gw_in 424 (by decide +kernel) (by decide +kernel), gw_in 48 (by decide +kernel) (by decide +kernel), gw_in 425 (by decide +kernel) (by decide +kernel), by decide +kernel, by decide +kernel, by decide +kernel, by decide⟩
abbrev mX10_gulp : gx_M := (yX10_gulp, cX10_gulp, 4, some .int)
theorem sX10_gulp : gx_MS mX10_gulp 3 := ⟨gw_in 484 (by decide +kernel) (by decide +kernel), gw_in 48 (by decide +kernel) (by decide +kernel), gw_in 485 (by decide +kernel) (by decide +kernel), by decide +kernel, by decide +kernel, by decide +kernel, by decide⟩
abbrev mX10_fractionSide : gx_M := (yX10_fractionSide, cX10_fractionSide, 4, some .int)
theorem sX10_fractionSide : gx_MS mX10_fractionSide 3 := ⟨gw_in 740 (by decide +kernel) (by decide +kernel), gw_in 48 (by decide +kernel) (by decide +kernel), gw_in 741 (by decide +kernel) (by decide +kernel), by decide +kernel, by decide +kernel, by decide +kernel, by decide⟩
abbrev mX10_commonDivisor : gx_M := (yX10_commonDivisor, cX10_commonDivisor, 6, some .int)
theorem sX10_commonDivisor : gx_MS mX10_commonDivisor 2 := ⟨gw_in 746 (by decide +kernel) (by decide +kernel), gw_in 48 (by decide +kernel) (by decide +kernel), gw_in 747 (by decide +kernel) (by decide +kernel), by decide +kernel, by decide +kernel, by decide +kernel, by decide⟩
abbrev mX11_init : gx_M := (yX11_init, cX11_init, 1, none)
abbrev mX11_in : gx_M := (yX11_in, cX11_in, 6, some .boolean)
theorem sX11_in : gx_MS mX11_in 3 := ⟨gw_in 908 (by decide +kernel) (by decide +kernel), gw_in 60 (by decide +kernel) (by decide +kernel), gw_in 909 (by decide +kernel) (by decide +kernel), by decide +kernel, by decide +kernel, by decide +kernel, by decide⟩
abbrev mX11_has : gx_M := (yX11_has, cX11_has, 2, some .boolean)
theorem sX11_has : gx_MS mX11_has 2 := ⟨gw_in 932 (by decide +kernel) (by decide +kernel), gw_in 60 (by decide +kernel) (by decide +kernel), gw_in 933 (by decide +kernel) (by decide +kernel), by decide +kernel, by decide +kernel, by decide +kernel, by decide⟩
abbrev mX11_ones : gx_M := (yX11_ones, cX11_ones, 3, some .int)
theorem sX11_ones : gx_MS mX11_ones 1 := ⟨gw_in 1071 (by decide +kernel) (by decide +kernel), gw_in 60 (by decide +kernel) (by decide +kernel), gw_in 1072 (by decide +kernel) (by decide +kernel), by decide +kernel, by decide +kernel, by decide +kernel, by decide⟩
abbrev mX11_write : gx_M := (yX11_write, cX11_write, 2, some .int)
theorem vX11_write : gx_MV mX11_write 1 ∧ gx_mc mX11_write 11 := ⟨⟨gw_in 903 (by decide +kernel) (by decide +kernel), gw_in 904 (by decide +kernel) (by decide +kernel), gw_in 60 (by decide +kernel) (by decide +kernel), gw_in 905 (by decide +kernel) (by decide +kernel), by decide +kernel, by decide +kernel, by decide +kernel, by decide⟩, _, rfl, rfl⟩
abbrev mX11_wipe : gx_M := (yX11_wipe, cX11_wipe, 2, some .int)
theorem vX11_wipe : gx_MV mX11_wipe 0 ∧ gx_mc mX11_wipe 11 := ⟨⟨gw_in 911 (by decide +kernel) (by decide +kernel), gw_in 912 (by decide +kernel) (by decide +kernel), gw_in 60 (by decide +kernel) (by decide +kernel), gw_in 913 (by decide +kernel) (by decide +kernel), by decide +kernel, by decide +kernel, by decide +kernel, by decide⟩, _, rfl, rfl⟩
abbrev mX11_figureOf : gx_M := (yX11_figureOf, cX11_figureOf, 3, some .int)
theorem vX11_figureOf : gx_MV mX11_figureOf 1 ∧ gx_mc mX11_figureOf 11 := ⟨⟨gw_in 928 (by decide +kernel) (by decide +kernel), gw_in 22 (by decide +kernel) (by decide +kernel), gw_in 60 (by decide +kernel) (by decide +kernel), gw_in 929 (by decide +kernel) (by decide +kernel), by decide +kernel, by decide +kernel, by decide +kernel, by decide⟩, _, rfl, rfl⟩
abbrev mX11_freeOf : gx_M := (yX11_freeOf, cX11_freeOf, 2, some .int)
theorem vX11_freeOf : gx_MV mX11_freeOf 1 ∧ gx_mc mX11_freeOf 11 := ⟨⟨gw_in 940 (by decide +kernel) (by decide +kernel), gw_in 24 (by decide +kernel) (by decide +kernel), gw_in 60 (by decide +kernel) (by decide +kernel), gw_in 941 (by decide +kernel) (by decide +kernel), by decide +kernel, by decide +kernel, by decide +kernel, by decide⟩, _, rfl, rfl⟩
abbrev mX11_firstsLeft : gx_M := (yX11_firstsLeft, cX11_firstsLeft, 3, some .int)
theorem vX11_firstsLeft : gx_MV mX11_firstsLeft 0 ∧ gx_mc mX11_firstsLeft 11 := ⟨⟨gw_in 936 (by decide +kernel) (by decide +kernel), gw_in 23 (by decide +kernel) (by decide +kernel), gw_in 60 (by decide +kernel) (by decide +kernel), gw_in 937 (by decide +kernel) (by decide +kernel), by decide +kernel, by decide +kernel, by decide +kernel, by decide⟩, _, rfl, rfl⟩
abbrev mX11_readText : gx_M := (yX11_readText, cX11_readText, 2, some .int)
theorem vX11_readText : gx_MV mX11_readText 0 ∧ gx_mc mX11_readText 11 := ⟨⟨gw_in 920 (by decide +kernel) (by decide +kernel), gw_in 20 (by decide +kernel) (by decide +kernel), gw_in 60 (by decide +kernel) (by decide +kernel), gw_in 921 (by decide +kernel) (by decide +kernel), by decide +kernel, by decide +kernel, by decide +kernel, by decide⟩, _, rfl, rfl⟩
abbrev mX11_readPart : gx_M := (yX11_readPart, cX11_readPart, 4, none)
theorem vX11_readPart : gx_MV mX11_readPart 1 ∧ gx_mc mX11_readPart 11 := ⟨⟨gw_in 924 (by decide +kernel) (by decide +kernel), gw_in 21 (by decide +kernel) (by decide +kernel), gw_in 60 (by decide +kernel) (by decide +kernel), gw_in 925 (by decide +kernel) (by decide +kernel), by decide +kernel, by decide +kernel, by decide +kernel, by decide⟩, _, rfl, rfl⟩
abbrev mX11_fault : gx_M := (yX11_fault, cX11_fault, 1, some .int)
theorem vX11_fault : gx_MV mX11_fault 0 ∧ gx_mc mX11_fault 11 := ⟨⟨gw_in 915 (by decide +kernel) (by decide +kernel), gw_in 916 (by decide +kernel) (by decide +kernel), gw_in 60 (by decide +kernel) (by decide +kernel), gw_in 917 (by decide +kernel) (by decide +kernel), by decide +kernel, by decide +kernel, by decide +kernel, by decide⟩, _, rfl, rfl⟩
abbrev mX11_inn : gx_M := (yX11_inn, cX11_inn, 2, some .int)
theorem vX11_inn : gx_MV mX11_inn 0 ∧ gx_mc mX11_inn 11 := ⟨⟨gw_in 943 (by decide +kernel) (by decide +kernel), gw_in 944 (by decide +kernel) (by decide +kernel), gw_in 60 (by decide +kernel) (by decide +kernel), gw_in 945 (by decide +kernel) (by decide +kernel), by decide +kernel, by decide +kernel, by decide +kernel, by decide⟩, _, rfl, rfl⟩
abbrev mX11_isGlass : gx_M := (yX11_isGlass, cX11_isGlass, 2, some .boolean)
theorem vX11_isGlass : gx_MV mX11_isGlass 1 ∧ gx_mc mX11_isGlass 11 := ⟨⟨gw_in 952 (by decide +kernel) (by decide +kernel), gw_in 25 (by decide +kernel) (by decide +kernel), gw_in 60 (by decide +kernel) (by decide +kernel), gw_in 953 (by decide +kernel) (by decide +kernel), by decide +kernel, by decide +kernel, by decide +kernel, by decide⟩, _, rfl, rfl⟩
abbrev mX11_isDrinker : gx_M := (yX11_isDrinker, cX11_isDrinker, 2, some .boolean)
theorem vX11_isDrinker : gx_MV mX11_isDrinker 1 ∧ gx_mc mX11_isDrinker 11 := ⟨⟨gw_in 968 (by decide +kernel) (by decide +kernel), gw_in 28 (by decide +kernel) (by decide +kernel), gw_in 60 (by decide +kernel) (by decide +kernel), gw_in 969 (by decide +kernel) (by decide +kernel), by decide +kernel, by decide +kernel, by decide +kernel, by decide⟩, _, rfl, rfl⟩
abbrev mX11_drinks : gx_M := (yX11_drinks, cX11_drinks, 4, some .int)
theorem sX11_drinks : gx_MS mX11_drinks 3 := ⟨gw_in 974 (by decide +kernel) (by decide +kernel), gw_in 60 (by decide +kernel) (by decide +kernel), gw_in 975 (by decide +kernel) (by decide +kernel), by decide +kernel, by decide +kernel, by decide +kernel, by decide⟩
abbrev mX11_drinkOn : gx_M := (yX11_drinkOn, cX11_drinkOn, 6, some .int)
theorem vX11_drinkOn : gx_MV mX11_drinkOn 3 ∧ gx_mc mX11_drinkOn 11 := ⟨⟨gw_in 998 (by decide +kernel) (by decide +kernel), gw_in 32 (by decide +kernel) (by decide +kernel), gw_in 60 (by decide +kernel) (by decide +kernel), gw_in 999 (by decide +kernel) (by decide +kernel), by decide +kernel, by decide +kernel, by decide +kernel, by decide⟩, _, rfl, rfl⟩
abbrev mX11_sitOn : gx_M := (yX11_sitOn, cX11_sitOn, 4, none)
theorem vX11_sitOn : gx_MV mX11_sitOn 2 ∧ gx_mc mX11_sitOn 11 := ⟨⟨gw_in 1042 (by decide +kernel) (by decide +kernel), gw_in 39 (by decide +kernel) (by decide +kernel), gw_in 60 (by decide +kernel) (by decide +kernel), gw_in 1043 (by decide +kernel) (by decide +kernel), by decide +kernel, by decide +kernel, by decide +kernel, by decide⟩, _, rfl, rfl⟩
abbrev mX11_eveningOn : gx_M := (yX11_eveningOn, cX11_eveningOn, 4, none)
theorem vX11_eveningOn : gx_MV mX11_eveningOn 2 ∧ gx_mc mX11_eveningOn 11 := ⟨⟨gw_in 1038 (by decide +kernel) (by decide +kernel), gw_in 38 (by decide +kernel) (by decide +kernel), gw_in 60 (by decide +kernel) (by decide +kernel), gw_in 1039 (by decide +kernel) (by decide +kernel), by decide +kernel, by decide +kernel, by decide +kernel, by decide⟩, _, rfl, rfl⟩
abbrev mX11_taxOn : gx_M := (yX11_taxOn, cX11_taxOn, 5, some .int)
theorem vX11_taxOn : gx_MV mX11_taxOn 2 ∧ gx_mc mX11_taxOn 11 := ⟨⟨gw_in 956 (by decide +kernel) (by decide +kernel), gw_in 26 (by decide +kernel) (by decide +kernel), gw_in 60 (by decide +kernel) (by decide +kernel), gw_in 957 (by decide +kernel) (by decide +kernel), by decide +kernel, by decide +kernel, by decide +kernel, by decide⟩, _, rfl, rfl⟩
abbrev mX11_taxes : gx_M := (yX11_taxes, cX11_taxes, 4, some .int)
theorem vX11_taxes : gx_MV mX11_taxes 1 ∧ gx_mc mX11_taxes 11 := ⟨⟨gw_in 1022 (by decide +kernel) (by decide +kernel), gw_in 36 (by decide +kernel) (by decide +kernel), gw_in 60 (by decide +kernel) (by decide +kernel), gw_in 1023 (by decide +kernel) (by decide +kernel), by decide +kernel, by decide +kernel, by decide +kernel, by decide⟩, _, rfl, rfl⟩
abbrev mX11_thirst : gx_M := (yX11_thirst, cX11_thirst, 5, some .int)
theorem vX11_thirst : gx_MV mX11_thirst 2 ∧ gx_mc mX11_thirst 11 := ⟨⟨gw_in 1050 (by decide +kernel) (by decide +kernel), gw_in 40 (by decide +kernel) (by decide +kernel), gw_in 60 (by decide +kernel) (by decide +kernel), gw_in 1051 (by decide +kernel) (by decide +kernel), by decide +kernel, by decide +kernel, by decide +kernel, by decide⟩, _, rfl, rfl⟩
abbrev mX11_passOn : gx_M := (yX11_passOn, cX11_passOn, 4, none)
theorem vX11_passOn : gx_MV mX11_passOn 1 ∧ gx_mc mX11_passOn 11 := ⟨⟨gw_in 1018 (by decide +kernel) (by decide +kernel), gw_in 35 (by decide +kernel) (by decide +kernel), gw_in 60 (by decide +kernel) (by decide +kernel), gw_in 1019 (by decide +kernel) (by decide +kernel), by decide +kernel, by decide +kernel, by decide +kernel, by decide⟩, _, rfl, rfl⟩
abbrev mX11_sittersAt : gx_M := (yX11_sittersAt, cX11_sittersAt, 4, some .int)
theorem vX11_sittersAt : gx_MV mX11_sittersAt 1 ∧ gx_mc mX11_sittersAt 11 := ⟨⟨gw_in 960 (by decide +kernel) (by decide +kernel), gw_in 27 (by decide +kernel) (by decide +kernel), gw_in 60 (by decide +kernel) (by decide +kernel), gw_in 961 (by decide +kernel) (by decide +kernel), by decide +kernel, by decide +kernel, by decide +kernel, by decide⟩, _, rfl, rfl⟩
abbrev mX11_glass : gx_M := (yX11_glass, cX11_glass, 3, some .int)
theorem vX11_glass : gx_MV mX11_glass 2 ∧ gx_mc mX11_glass 11 := ⟨⟨gw_in 947 (by decide +kernel) (by decide +kernel), gw_in 948 (by decide +kernel) (by decide +kernel), gw_in 60 (by decide +kernel) (by decide +kernel), gw_in 949 (by decide +kernel) (by decide +kernel), by decide +kernel, by decide +kernel, by decide +kernel, by decide⟩, _, rfl, rfl⟩
abbrev mX11_firstOf : gx_M := (yX11_firstOf, cX11_firstOf, 2, some .int)
theorem sX11_firstOf : gx_MS mX11_firstOf 1 := ⟨gw_in 971 (by decide +kernel) (by decide +kernel), gw_in 60 (by decide +kernel) (by decide +kernel), gw_in 972 (by decide +kernel) (by decide +kernel), by decide +kernel, by decide +kernel, by decide +kernel, by decide⟩
abbrev mX11_drinker : gx_M := (yX11_drinker, cX11_drinker, 3, some .int)
theorem vX11_drinker : gx_MV mX11_drinker 2 ∧ gx_mc mX11_drinker 11 := ⟨⟨gw_in 963 (by decide +kernel) (by decide +kernel), gw_in 964 (by decide +kernel) (by decide +kernel), gw_in 60 (by decide +kernel) (by decide +kernel), gw_in 965 (by decide +kernel) (by decide +kernel), by decide +kernel, by decide +kernel, by decide +kernel, by decide⟩, _, rfl, rfl⟩
abbrev mX11_keepAct : gx_M := (yX11_keepAct, cX11_keepAct, 2, none)
theorem vX11_keepAct : gx_MV mX11_keepAct 0 ∧ gx_mc mX11_keepAct 11 := ⟨⟨gw_in 986 (by decide +kernel) (by decide +kernel), gw_in 30 (by decide +kernel) (by decide +kernel), gw_in 60 (by decide +kernel) (by decide +kernel), gw_in 987 (by decide +kernel) (by decide +kernel), by decide +kernel, by decide +kernel, by decide +kernel, by decide⟩, _, rfl, rfl⟩
abbrev mX11_roomIn : gx_M := (yX11_roomIn, cX11_roomIn, 3, some .int)
theorem vX11_roomIn : gx_MV mX11_roomIn 2 ∧ gx_mc mX11_roomIn 11 := ⟨⟨gw_in 982 (by decide +kernel) (by decide +kernel), gw_in 29 (by decide +kernel) (by decide +kernel), gw_in 60 (by decide +kernel) (by decide +kernel), gw_in 983 (by decide +kernel) (by decide +kernel), by decide +kernel, by decide +kernel, by decide +kernel, by decide⟩, _, rfl, rfl⟩
abbrev mX11_pourOn : gx_M := (yX11_pourOn, cX11_pourOn, 5, some .int)
theorem vX11_pourOn : gx_MV mX11_pourOn 3 ∧ gx_mc mX11_pourOn 11 := ⟨⟨gw_in 990 (by decide +kernel) (by decide +kernel), gw_in 31 (by decide +kernel) (by decide +kernel), gw_in 60 (by decide +kernel) (by decide +kernel), gw_in 991 (by decide +kernel) (by decide +kernel), by decide +kernel, by decide +kernel, by decide +kernel, by decide⟩, _, rfl, rfl⟩
abbrev mX11_pour : gx_M := (yX11_pour, cX11_pour, 3, some .int)
theorem vX11_pour : gx_MV mX11_pour 2 ∧ gx_mc mX11_pour 11 := ⟨⟨gw_in 977 (by decide +kernel) (by decide +kernel), gw_in 978 (by decide +kernel) (by decide +kernel), gw_in 60 (by decide +kernel) (by decide +kernel), gw_in 979 (by decide +kernel) (by decide +kernel), by decide +kernel, by decide +kernel, by decide +kernel, by decide⟩, _, rfl, rfl⟩
abbrev mX11_drink : gx_M := (yX11_drink, cX11_drink, 3, some .int)
theorem vX11_drink : gx_MV mX11_drink 2 ∧ gx_mc mX11_drink 11 := ⟨⟨gw_in 993 (by decide +kernel) (by decide +kernel), gw_in 994 (by decide +kernel) (by decide +kernel), gw_in 60 (by decide +kernel) (by decide +kernel), gw_in 995 (by decide +kernel) (by decide +kernel), by decide +kernel, by decide +kernel, by decide +kernel, by decide⟩, _, rfl, rfl⟩
abbrev mX11_canTip : gx_M := (yX11_canTip, cX11_canTip, 4, some .boolean)
theorem vX11_canTip : gx_MV mX11_canTip 3 ∧ gx_mc mX11_canTip 11 := ⟨⟨gw_in 1006 (by decide +kernel) (by decide +kernel), gw_in 33 (by decide +kernel) (by decide +kernel), gw_in 60 (by decide +kernel) (by decide +kernel), gw_in 1007 (by decide +kernel) (by decide +kernel), by decide +kernel, by decide +kernel, by decide +kernel, by decide⟩, _, rfl, rfl⟩
abbrev mX11_tipOn : gx_M := (yX11_tipOn, cX11_tipOn, 7, some .int)
theorem vX11_tipOn : gx_MV mX11_tipOn 3 ∧ gx_mc mX11_tipOn 11 := ⟨⟨gw_in 1010 (by decide +kernel) (by decide +kernel), gw_in 34 (by decide +kernel) (by decide +kernel), gw_in 60 (by decide +kernel) (by decide +kernel), gw_in 1011 (by decide +kernel) (by decide +kernel), by decide +kernel, by decide +kernel, by decide +kernel, by decide⟩, _, rfl, rfl⟩
abbrev mX11_tip : gx_M := (yX11_tip, cX11_tip, 3, some .int)
theorem vX11_tip : gx_MV mX11_tip 2 ∧ gx_mc mX11_tip 11 := ⟨⟨gw_in 1001 (by decide +kernel) (by decide +kernel), gw_in 1002 (by decide +kernel) (by decide +kernel), gw_in 60 (by decide +kernel) (by decide +kernel), gw_in 1003 (by decide +kernel) (by decide +kernel), by decide +kernel, by decide +kernel, by decide +kernel, by decide⟩, _, rfl, rfl⟩
abbrev mX11_hour : gx_M := (yX11_hour, cX11_hour, 1, some .int)
theorem vX11_hour : gx_MV mX11_hour 0 ∧ gx_mc mX11_hour 11 := ⟨⟨gw_in 1013 (by decide +kernel) (by decide +kernel), gw_in 1014 (by decide +kernel) (by decide +kernel), gw_in 60 (by decide +kernel) (by decide +kernel), gw_in 1015 (by decide +kernel) (by decide +kernel), by decide +kernel, by decide +kernel, by decide +kernel, by decide⟩, _, rfl, rfl⟩
abbrev mX11_undo : gx_M := (yX11_undo, cX11_undo, 2, some .int)
theorem vX11_undo : gx_MV mX11_undo 0 ∧ gx_mc mX11_undo 11 := ⟨⟨gw_in 1025 (by decide +kernel) (by decide +kernel), gw_in 1026 (by decide +kernel) (by decide +kernel), gw_in 60 (by decide +kernel) (by decide +kernel), gw_in 1027 (by decide +kernel) (by decide +kernel), by decide +kernel, by decide +kernel, by decide +kernel, by decide⟩, _, rfl, rfl⟩
abbrev mX11_layTrial : gx_M := (yX11_layTrial, cX11_layTrial, 2, none)
theorem vX11_layTrial : gx_MV mX11_layTrial 0 ∧ gx_mc mX11_layTrial 11 := ⟨⟨gw_in 1034 (by decide +kernel) (by decide +kernel), gw_in 37 (by decide +kernel) (by decide +kernel), gw_in 60 (by decide +kernel) (by decide +kernel), gw_in 1035 (by decide +kernel) (by decide +kernel), by decide +kernel, by decide +kernel, by decide +kernel, by decide⟩, _, rfl, rfl⟩
abbrev mX11_left : gx_M := (yX11_left, cX11_left, 2, some .int)
theorem vX11_left : gx_MV mX11_left 1 ∧ gx_mc mX11_left 11 := ⟨⟨gw_in 1029 (by decide +kernel) (by decide +kernel), gw_in 1030 (by decide +kernel) (by decide +kernel), gw_in 60 (by decide +kernel) (by decide +kernel), gw_in 1031 (by decide +kernel) (by decide +kernel), by decide +kernel, by decide +kernel, by decide +kernel, by decide⟩, _, rfl, rfl⟩
abbrev mX11_evening : gx_M := (yX11_evening, cX11_evening, 2, some .int)
theorem vX11_evening : gx_MV mX11_evening 1 ∧ gx_mc mX11_evening 11 := ⟨⟨gw_in 1045 (by decide +kernel) (by decide +kernel), gw_in 1046 (by decide +kernel) (by decide +kernel), gw_in 60 (by decide +kernel) (by decide +kernel), gw_in 1047 (by decide +kernel) (by decide +kernel), by decide +kernel, by decide +kernel, by decide +kernel, by decide⟩, _, rfl, rfl⟩
abbrev mX11_tenTo : gx_M := (yX11_tenTo, cX11_tenTo, 3, some .int)
theorem sX11_tenTo : gx_MS mX11_tenTo 1 := ⟨gw_in 1057 (by decide +kernel) (by decide +kernel), gw_in 60 (by decide +kernel) (by decide +kernel), gw_in 1058 (by decide +kernel) (by decide +kernel), by decide +kernel, by decide +kernel, by decide +kernel, by decide⟩
abbrev mX11_figuresSum : gx_M := (yX11_figuresSum, cX11_figuresSum, 3, some .int)
theorem sX11_figuresSum : gx_MS mX11_figuresSum 1 := ⟨gw_in 1060 (by decide +kernel) (by decide +kernel), gw_in 60 (by decide +kernel) (by decide +kernel), gw_in 1061 (by decide +kernel) (by decide +kernel), by decide +kernel, by decide +kernel, by decide +kernel, by decide⟩
abbrev mX11_taxesBy : gx_M := (yX11_taxesBy, cX11_taxesBy, 5, some .int)
theorem vX11_taxesBy : gx_MV mX11_taxesBy 1 ∧ gx_mc mX11_taxesBy 11 := ⟨⟨gw_in 1064 (by decide +kernel) (by decide +kernel), gw_in 41 (by decide +kernel) (by decide +kernel), gw_in 60 (by decide +kernel) (by decide +kernel), gw_in 1065 (by decide +kernel) (by decide +kernel), by decide +kernel, by decide +kernel, by decide +kernel, by decide⟩, _, rfl, rfl⟩
abbrev mX11_pouring : gx_M := (yX11_pouring, cX11_pouring, 8, some .int)
theorem vX11_pouring : gx_MV mX11_pouring 2 ∧ gx_mc mX11_pouring 11 := ⟨⟨gw_in 1053 (by decide +kernel) (by decide +kernel), gw_in 1054 (by decide +kernel) (by decide +kernel), gw_in 60 (by decide +kernel) (by decide +kernel), gw_in 1055 (by decide +kernel) (by decide +kernel), by decide +kernel, by decide +kernel, by decide +kernel, by decide⟩, _, rfl, rfl⟩
abbrev mX11_wake : gx_M := (yX11_wake, cX11_wake, 4, some .int)
theorem vX11_wake : gx_MV mX11_wake 0 ∧ gx_mc mX11_wake 11 := ⟨⟨gw_in 1067 (by decide +kernel) (by decide +kernel), gw_in 1068 (by decide +kernel) (by decide +kernel), gw_in 60 (by decide +kernel) (by decide +kernel), gw_in 1069 (by decide +kernel) (by decide +kernel), by decide +kernel, by decide +kernel, by decide +kernel, by decide⟩, _, rfl, rfl⟩
abbrev mX11_thirstBy : gx_M := (yX11_thirstBy, cX11_thirstBy, 5, some .int)
theorem vX11_thirstBy : gx_MV mX11_thirstBy 1 ∧ gx_mc mX11_thirstBy 11 := ⟨⟨gw_in 1079 (by decide +kernel) (by decide +kernel), gw_in 42 (by decide +kernel) (by decide +kernel), gw_in 60 (by decide +kernel) (by decide +kernel), gw_in 1080 (by decide +kernel) (by decide +kernel), by decide +kernel, by decide +kernel, by decide +kernel, by decide⟩, _, rfl, rfl⟩
abbrev mX11_order : gx_M := (yX11_order, cX11_order, 7, some .int)
theorem vX11_order : gx_MV mX11_order 1 ∧ gx_mc mX11_order 11 := ⟨⟨gw_in 1074 (by decide +kernel) (by decide +kernel), gw_in 1075 (by decide +kernel) (by decide +kernel), gw_in 60 (by decide +kernel) (by decide +kernel), gw_in 1076 (by decide +kernel) (by decide +kernel), by decide +kernel, by decide +kernel, by decide +kernel, by decide⟩, _, rfl, rfl⟩
abbrev mX11_hall : gx_M := (yX11_hall, cX11_hall, 3, some .int)
theorem vX11_hall : gx_MV mX11_hall 1 ∧ gx_mc mX11_hall 11 := ⟨⟨gw_in 1082 (by decide +kernel) (by decide +kernel), gw_in 1083 (by decide +kernel) (by decide +kernel), gw_in 60 (by decide +kernel) (by decide +kernel), gw_in 1084 (by decide +kernel) (by decide +kernel), by decide +kernel, by decide +kernel, by decide +kernel, by decide⟩, _, rfl, rfl⟩
abbrev mX11_tryThing : gx_M := (yX11_tryThing, cX11_tryThing, 7, some .boolean)
theorem vX11_tryThing : gx_MV mX11_tryThing 3 ∧ gx_mc mX11_tryThing 11 := ⟨⟨gw_in 1096 (by decide +kernel) (by decide +kernel), gw_in 43 (by decide +kernel) (by decide +kernel), gw_in 60 (by decide +kernel) (by decide +kernel), gw_in 1097 (by decide +kernel) (by decide +kernel), by decide +kernel, by decide +kernel, by decide +kernel, by decide⟩, _, rfl, rfl⟩
abbrev mX11_thousandTo : gx_M := (yX11_thousandTo, cX11_thousandTo, 4, some .long)
theorem sX11_thousandTo : gx_MS mX11_thousandTo 1 := ⟨gw_in 1091 (by decide +kernel) (by decide +kernel), gw_in 60 (by decide +kernel) (by decide +kernel), gw_in 1092 (by decide +kernel) (by decide +kernel), by decide +kernel, by decide +kernel, by decide +kernel, by decide⟩
abbrev mX11_judge : gx_M := (yX11_judge, cX11_judge, 6, some .int)
theorem vX11_judge : gx_MV mX11_judge 2 ∧ gx_mc mX11_judge 11 := ⟨⟨gw_in 1086 (by decide +kernel) (by decide +kernel), gw_in 1087 (by decide +kernel) (by decide +kernel), gw_in 60 (by decide +kernel) (by decide +kernel), gw_in 1088 (by decide +kernel) (by decide +kernel), by decide +kernel, by decide +kernel, by decide +kernel, by decide⟩, _, rfl, rfl⟩
abbrev mX11_see : gx_M := (yX11_see, cX11_see, 4, some .int)
theorem vX11_see : gx_MV mX11_see 3 ∧ gx_mc mX11_see 11 := ⟨⟨gw_in 1099 (by decide +kernel) (by decide +kernel), gw_in 1100 (by decide +kernel) (by decide +kernel), gw_in 60 (by decide +kernel) (by decide +kernel), gw_in 1101 (by decide +kernel) (by decide +kernel), by decide +kernel, by decide +kernel, by decide +kernel, by decide⟩, _, rfl, rfl⟩
abbrev mX11_unsee : gx_M := (yX11_unsee, cX11_unsee, 2, some .int)
theorem vX11_unsee : gx_MV mX11_unsee 0 ∧ gx_mc mX11_unsee 11 := ⟨⟨gw_in 1103 (by decide +kernel) (by decide +kernel), gw_in 1104 (by decide +kernel) (by decide +kernel), gw_in 60 (by decide +kernel) (by decide +kernel), gw_in 1105 (by decide +kernel) (by decide +kernel), by decide +kernel, by decide +kernel, by decide +kernel, by decide⟩, _, rfl, rfl⟩
abbrev mX11_thirsts : gx_M := (yX11_thirsts, cX11_thirsts, 6, some .int)
theorem vX11_thirsts : gx_MV mX11_thirsts 1 ∧ gx_mc mX11_thirsts 11 := ⟨⟨gw_in 1107 (by decide +kernel) (by decide +kernel), gw_in 1108 (by decide +kernel) (by decide +kernel), gw_in 60 (by decide +kernel) (by decide +kernel), gw_in 1109 (by decide +kernel) (by decide +kernel), by decide +kernel, by decide +kernel, by decide +kernel, by decide⟩, _, rfl, rfl⟩
abbrev mX11_factorial : gx_M := (yX11_factorial, cX11_factorial, 3, some .int)
theorem sX11_factorial : gx_MS mX11_factorial 1 := ⟨gw_in 1115 (by decide +kernel) (by decide +kernel), gw_in 60 (by decide +kernel) (by decide +kernel), gw_in 1116 (by decide +kernel) (by decide +kernel), by decide +kernel, by decide +kernel, by decide +kernel, by decide⟩
abbrev mX11_common : gx_M := (yX11_common, cX11_common, 5, some .int)
theorem sX11_common : gx_MS mX11_common 2 := ⟨gw_in 1122 (by decide +kernel) (by decide +kernel), gw_in 60 (by decide +kernel) (by decide +kernel), gw_in 1123 (by decide +kernel) (by decide +kernel), by decide +kernel, by decide +kernel, by decide +kernel, by decide⟩
abbrev mX11_taxesOf : gx_M := (yX11_taxesOf, cX11_taxesOf, 2, some .int)
theorem vX11_taxesOf : gx_MV mX11_taxesOf 1 ∧ gx_mc mX11_taxesOf 11 := ⟨⟨gw_in 1119 (by decide +kernel) (by decide +kernel), gw_in 44 (by decide +kernel) (by decide +kernel), gw_in 60 (by decide +kernel) (by decide +kernel), gw_in 1120 (by decide +kernel) (by decide +kernel), by decide +kernel, by decide +kernel, by decide +kernel, by decide⟩, _, rfl, rfl⟩
abbrev mX11_share : gx_M := (yX11_share, cX11_share, 6, some .int)
theorem vX11_share : gx_MV mX11_share 2 ∧ gx_mc mX11_share 11 := ⟨⟨gw_in 1111 (by decide +kernel) (by decide +kernel), gw_in 1112 (by decide +kernel) (by decide +kernel), gw_in 60 (by decide +kernel) (by decide +kernel), gw_in 1113 (by decide +kernel) (by decide +kernel), by decide +kernel, by decide +kernel, by decide +kernel, by decide⟩, _, rfl, rfl⟩
abbrev mX11_gain : gx_M := (yX11_gain, cX11_gain, 8, some .int)
theorem vX11_gain : gx_MV mX11_gain 5 ∧ gx_mc mX11_gain 11 := ⟨⟨gw_in 1134 (by decide +kernel) (by decide +kernel), gw_in 46 (by decide +kernel) (by decide +kernel), gw_in 60 (by decide +kernel) (by decide +kernel), gw_in 1135 (by decide +kernel) (by decide +kernel), by decide +kernel, by decide +kernel, by decide +kernel, by decide⟩, _, rfl, rfl⟩
abbrev mX11_isRest : gx_M := (yX11_isRest, cX11_isRest, 7, some .boolean)
theorem vX11_isRest : gx_MV mX11_isRest 4 ∧ gx_mc mX11_isRest 11 := ⟨⟨gw_in 1130 (by decide +kernel) (by decide +kernel), gw_in 45 (by decide +kernel) (by decide +kernel), gw_in 60 (by decide +kernel) (by decide +kernel), gw_in 1131 (by decide +kernel) (by decide +kernel), by decide +kernel, by decide +kernel, by decide +kernel, by decide⟩, _, rfl, rfl⟩
abbrev mX11_rests : gx_M := (yX11_rests, cX11_rests, 9, some .int)
theorem vX11_rests : gx_MV mX11_rests 3 ∧ gx_mc mX11_rests 11 := ⟨⟨gw_in 1125 (by decide +kernel) (by decide +kernel), gw_in 1126 (by decide +kernel) (by decide +kernel), gw_in 60 (by decide +kernel) (by decide +kernel), gw_in 1127 (by decide +kernel) (by decide +kernel), by decide +kernel, by decide +kernel, by decide +kernel, by decide⟩, _, rfl, rfl⟩
abbrev mX11_leak : gx_M := (yX11_leak, cX11_leak, 9, some .int)
theorem vX11_leak : gx_MV mX11_leak 3 ∧ gx_mc mX11_leak 11 := ⟨⟨gw_in 1137 (by decide +kernel) (by decide +kernel), gw_in 1138 (by decide +kernel) (by decide +kernel), gw_in 60 (by decide +kernel) (by decide +kernel), gw_in 1139 (by decide +kernel) (by decide +kernel), by decide +kernel, by decide +kernel, by decide +kernel, by decide⟩, _, rfl, rfl⟩
abbrev mX11_seed : gx_M := (yX11_seed, cX11_seed, 5, some .long)
theorem vX11_seed : gx_MV mX11_seed 1 ∧ gx_mc mX11_seed 11 := ⟨⟨gw_in 1143 (by decide +kernel) (by decide +kernel), gw_in 1144 (by decide +kernel) (by decide +kernel), gw_in 60 (by decide +kernel) (by decide +kernel), gw_in 1145 (by decide +kernel) (by decide +kernel), by decide +kernel, by decide +kernel, by decide +kernel, by decide⟩, _, rfl, rfl⟩
abbrev mX11_nights : gx_M := (yX11_nights, cX11_nights, 5, some .int)
theorem vX11_nights : gx_MV mX11_nights 1 ∧ gx_mc mX11_nights 11 := ⟨⟨gw_in 1147 (by decide +kernel) (by decide +kernel), gw_in 1148 (by decide +kernel) (by decide +kernel), gw_in 60 (by decide +kernel) (by decide +kernel), gw_in 1149 (by decide +kernel) (by decide +kernel), by decide +kernel, by decide +kernel, by decide +kernel, by decide⟩, _, rfl, rfl⟩
abbrev mX11_keep : gx_M := (yX11_keep, cX11_keep, 3, some .int)
theorem vX11_keep : gx_MV mX11_keep 1 ∧ gx_mc mX11_keep 11 := ⟨⟨gw_in 1155 (by decide +kernel) (by decide +kernel), gw_in 1156 (by decide +kernel) (by decide +kernel), gw_in 60 (by decide +kernel) (by decide +kernel), gw_in 1157 (by decide +kernel) (by decide +kernel), by decide +kernel, by decide +kernel, by decide +kernel, by decide⟩, _, rfl, rfl⟩
abbrev mX11_again : gx_M := (yX11_again, cX11_again, 3, some .int)
theorem vX11_again : gx_MV mX11_again 1 ∧ gx_mc mX11_again 11 := ⟨⟨gw_in 1159 (by decide +kernel) (by decide +kernel), gw_in 1160 (by decide +kernel) (by decide +kernel), gw_in 60 (by decide +kernel) (by decide +kernel), gw_in 1161 (by decide +kernel) (by decide +kernel), by decide +kernel, by decide +kernel, by decide +kernel, by decide⟩, _, rfl, rfl⟩
abbrev mX11_count : gx_M := (yX11_count, cX11_count, 2, some .int)
theorem vX11_count : gx_MV mX11_count 1 ∧ gx_mc mX11_count 11 := ⟨⟨gw_in 1163 (by decide +kernel) (by decide +kernel), gw_in 1164 (by decide +kernel) (by decide +kernel), gw_in 60 (by decide +kernel) (by decide +kernel), gw_in 1165 (by decide +kernel) (by decide +kernel), by decide +kernel, by decide +kernel, by decide +kernel, by decide⟩, _, rfl, rfl⟩
abbrev mJ6_bitCount_0f7a4 : gx_M := (yJ6_bitCount_0f7a4, cJ6_bitCount_0f7a4, 1, some .int)
theorem sJ6_bitCount_0f7a4 : gx_MS mJ6_bitCount_0f7a4 1 := ⟨gw_in 635 (by decide +kernel) (by decide +kernel), gw_in 62 (by decide +kernel) (by decide +kernel), gw_in 636 (by decide +kernel) (by decide +kernel), by decide +kernel, by decide +kernel, by decide +kernel, by decide⟩
abbrev mJ9_abs_0f7a4 : gx_M := (yJ9_abs_0f7a4, cJ9_abs_0f7a4, 1, some .int)
theorem sJ9_abs_0f7a4 : gx_MS mJ9_abs_0f7a4 1 := ⟨gw_in 743 (by decide +kernel) (by decide +kernel), gw_in 55 (by decide +kernel) (by decide +kernel), gw_in 744 (by decide +kernel) (by decide +kernel), by decide +kernel, by decide +kernel, by decide +kernel, by decide⟩
abbrev mJ9_max_7cf53 : gx_M := (yJ9_max_7cf53, cJ9_max_7cf53, 2, some .int)
theorem sJ9_max_7cf53 : gx_MS mJ9_max_7cf53 2 := ⟨gw_in 200 (by decide +kernel) (by decide +kernel), gw_in 55 (by decide +kernel) (by decide +kernel), gw_in 201 (by decide +kernel) (by decide +kernel), by decide +kernel, by decide +kernel, by decide +kernel, by decide⟩
abbrev mJ9_max_f86c9 : gx_M := (yJ9_max_f86c9, cJ9_max_f86c9, 4, some .long)
theorem sJ9_max_f86c9 : gx_MS mJ9_max_f86c9 2 := ⟨gw_in 678 (by decide +kernel) (by decide +kernel), gw_in 55 (by decide +kernel) (by decide +kernel), gw_in 679 (by decide +kernel) (by decide +kernel), by decide +kernel, by decide +kernel, by decide +kernel, by decide⟩
abbrev mJ9_min_7cf53 : gx_M := (yJ9_min_7cf53, cJ9_min_7cf53, 2, some .int)
theorem sJ9_min_7cf53 : gx_MS mJ9_min_7cf53 2 := ⟨gw_in 505 (by decide +kernel) (by decide +kernel), gw_in 55 (by decide +kernel) (by decide +kernel), gw_in 506 (by decide +kernel) (by decide +kernel), by decide +kernel, by decide +kernel, by decide +kernel, by decide⟩
end
section
/-! ===== helpers of the walks ===== -/
section GXH
variable {M : gx_M} {d pc : Nat} {loc : List (Option Value)} {st : List Value} {S : gx_S} {L : gx_L} {Q : Option Value → gx_S → gx_L → Prop}
theorem ev_iald2 {o n : Nat} (j : Nat) {i : Int32} (hd : decode M.2.1 pc = .ok (.iaload, 1)) (ha : gx_ar o = some (0, n)) (hi : i = nI j) (hj : j < n) (hn : n < 2 ^ 31) (kk : Ev M d (pc + 1) loc (.int (S o j) :: st) S L Q) : Ev M d pc loc (.int i :: .ref o :: st) S L Q := by
  subst hi
  exact ev_iald' hd ha hj hn kk
theorem ev_iast2 {o n : Nat} (j : Nat) {i x : Int32} (hd : decode M.2.1 pc = .ok (.iastore, 1)) (ha : gx_ar o = some (0, n)) (hi : i = nI j) (hj : j < n) (hn : n < 2 ^ 31) (kk : Ev M d (pc + 1) loc st (gx_u2 S o j x) L Q) : Ev M d pc loc (.int x :: .int i :: .ref o :: st) S L Q := by
  subst hi
  exact ev_iast' hd ha hj hn kk
theorem ev_zald2 {o n : Nat} (j : Nat) {i : Int32} (hd : decode M.2.1 pc = .ok (.baload, 1)) (ha : gx_ar o = some (1, n)) (hi : i = nI j) (hj : j < n) (hn : n < 2 ^ 31) (kk : Ev M d (pc + 1) loc (.int (S o j) :: st) S L Q) : Ev M d pc loc (.int i :: .ref o :: st) S L Q := by
  subst hi
  refine ev_zald hd ha (vp_in_nI hj hn) ?_
  rw [nI_clamp (Nat.lt_trans hj hn)]
  exact kk
theorem ev_zast2 {o n : Nat} (j : Nat) {i x : Int32} (hd : decode M.2.1 pc = .ok (.bastore, 1)) (ha : gx_ar o = some (1, n)) (hi : i = nI j) (hj : j < n) (hn : n < 2 ^ 31) (kk : Ev M d (pc + 1) loc st (gx_u2 S o j (vp_nar .boolean x)) L Q) : Ev M d pc loc (.int x :: .int i :: .ref o :: st) S L Q := by
  subst hi
  refine ev_zast hd ha (vp_in_nI hj hn) ?_
  rw [nI_clamp (Nat.lt_trans hj hn)]
  exact kk
/-- the same walk from an equal memory -/
theorem ev_mem {S' : gx_S} (h : S = S') (kk : Ev M d pc loc st S' L Q) : Ev M d pc loc st S L Q := h ▸ kk
theorem ev_loc {loc' : List (Option Value)} (h : loc = loc') (kk : Ev M d pc loc' st S L Q) : Ev M d pc loc st S L Q := h ▸ kk
theorem ev_stk {st' : List Value} (h : st = st') (kk : Ev M d pc loc st' S L Q) : Ev M d pc loc st S L Q := h ▸ kk
end GXH
def gx_b (c : Bool) : Int32 := if c = true then 1 else 0
theorem gx_b_t : gx_b true = 1 := rfl
theorem gx_b_f : gx_b false = 0 := rfl
theorem gx_b_z {c : Bool} : gx_b c = 0 ↔ c = false := by cases c <;> decide
theorem gx_b_nz {c : Bool} : ¬ gx_b c = 0 ↔ c = true := by cases c <;> decide
theorem gx_b_n {c : Bool} : gx_b c = 0 ↔ ¬ c = true := by cases c <;> decide
theorem gx_b_y {c : Bool} : ¬ gx_b c = 0 ↔ c = true := by cases c <;> decide
theorem gx_b_nar (c : Bool) : narrow .boolean (.int (gx_b c)) = .int (gx_b c) := by cases c <;> rfl
theorem u2_at (S : gx_S) (o k : Nat) (x : Int32) : gx_u2 S o k x o k = x := by
  unfold gx_u2
  rw [gx_up_at]
  unfold upd
  rw [if_pos rfl]
theorem u2_k (S : gx_S) (o : Nat) {k j : Nat} (x : Int32) (h : j ≠ k) : gx_u2 S o k x o j = S o j := by
  unfold gx_u2
  rw [gx_up_at]
  unfold upd
  rw [if_neg h]
theorem u2_o (S : gx_S) {o i : Nat} (k : Nat) (x : Int32) (h : i ≠ o) : gx_u2 S o k x i = S i := gx_up_ne S _ h
theorem u2_row (S : gx_S) (o k : Nat) (x : Int32) : gx_u2 S o k x o = upd (S o) k x := gx_up_at S o _
theorem upd_at (f : Nat → Int32) (k : Nat) (x : Int32) : upd f k x k = x := if_pos rfl
theorem upd_ne (f : Nat → Int32) {k j : Nat} (x : Int32) (h : j ≠ k) : upd f k x j = f j := if_neg h
theorem upd_self (f : Nat → Int32) (k : Nat) : upd f k (f k) = f := by
  funext j
  unfold upd
  split
  · rename_i h; rw [h]
  · rfl
theorem upd_upd (f : Nat → Int32) (k : Nat) (x y : Int32) : upd (upd f k x) k y = upd f k y := by
  funext j
  unfold upd
  split <;> rfl
theorem up_up (S : gx_S) (k : Nat) (f g : Nat → Int32) : gx_up (gx_up S k f) k g = gx_up S k g := by
  funext i
  unfold gx_up
  split <;> rfl
theorem up_self (S : gx_S) (k : Nat) : gx_up S k (S k) = S := by
  funext i
  unfold gx_up
  split
  · rename_i h; rw [h]
  · rfl
theorem up_comm (S : gx_S) {k i : Nat} (f g : Nat → Int32) (h : k ≠ i) : gx_up (gx_up S k f) i g = gx_up (gx_up S i g) k f := by
  funext j
  unfold gx_up
  by_cases h1 : j = i
  · subst h1
    rw [if_pos rfl, if_neg (Ne.symm h), if_pos rfl]
  · by_cases h2 : j = k
    · subst h2
      rw [if_neg h1, if_pos rfl, if_pos rfl]
    · rw [if_neg h1, if_neg h2, if_neg h2, if_neg h1]
/-! ===== which cells are tables, houses, shelves ===== -/
def tb (t : Nat) : Prop := t = 18 ∨ t = 22 ∨ t = 26
def hh (h : Nat) : Prop := h = 4 ∨ h = 11
theorem tb18 : tb 18 := Or.inl rfl
theorem tb22 : tb 22 := Or.inr (Or.inl rfl)
theorem tb26 : tb 26 := Or.inr (Or.inr rfl)
theorem hh4 : hh 4 := Or.inl rfl
theorem hh11 : hh 11 := Or.inr rfl
theorem tp9_0 {t : Nat} (h : tb t) : gx_tp t 9 0 = some (11 + 2) := by rcases h with rfl | rfl | rfl <;> rfl
theorem tp9_1 {t : Nat} (h : tb t) : gx_tp t 9 1 = some (t + 1 + 2) := by rcases h with rfl | rfl | rfl <;> rfl
theorem tp9_2 {t : Nat} (h : tb t) : gx_tp t 9 2 = some (t + 2 + 2) := by rcases h with rfl | rfl | rfl <;> rfl
theorem tp9_3 {t : Nat} (h : tb t) : gx_tp t 9 3 = some (t + 3 + 2) := by rcases h with rfl | rfl | rfl <;> rfl
theorem tp9_4 {t : Nat} (h : tb t) : gx_tp t 9 4 = some 0 := by rcases h with rfl | rfl | rfl <;> rfl
theorem ar9_1 {t : Nat} (h : tb t) : gx_ar (t + 1) = some (0, 5) := by rcases h with rfl | rfl | rfl <;> rfl
theorem ar9_2 {t : Nat} (h : tb t) : gx_ar (t + 2) = some (0, 5) := by rcases h with rfl | rfl | rfl <;> rfl
theorem ar9_3 {t : Nat} (h : tb t) : gx_ar (t + 3) = some (0, 4) := by rcases h with rfl | rfl | rfl <;> rfl
theorem cl9 {t : Nat} (h : tb t) : gx_cl t = some 9 := by rcases h with rfl | rfl | rfl <;> rfl
theorem tb_ge {t : Nat} (h : tb t) : 18 ≤ t ∧ t ≤ 26 := by rcases h with rfl | rfl | rfl <;> decide
theorem tp2_0 {h : Nat} (e : hh h) : gx_tp h 2 0 = some 0 := by rcases e with rfl | rfl <;> rfl
theorem tp2_1 {h : Nat} (e : hh h) : gx_tp h 2 1 = some 0 := by rcases e with rfl | rfl <;> rfl
theorem tp2_2 {h : Nat} (e : hh h) : gx_tp h 2 2 = some (h + 1 + 2) := by rcases e with rfl | rfl <;> rfl
theorem tp2_3 {h : Nat} (e : hh h) : gx_tp h 2 3 = some (h + 2 + 2) := by rcases e with rfl | rfl <;> rfl
theorem tp2_4 {h : Nat} (e : hh h) : gx_tp h 2 4 = some (h + 3 + 2) := by rcases e with rfl | rfl <;> rfl
theorem tp2_5 {h : Nat} (e : hh h) : gx_tp h 2 5 = some (h + 4 + 2) := by rcases e with rfl | rfl <;> rfl
theorem tp2_6 {h : Nat} (e : hh h) : gx_tp h 2 6 = some (h + 5 + 2) := by rcases e with rfl | rfl <;> rfl
theorem tp2_7 {h : Nat} (e : hh h) : gx_tp h 2 7 = some (h + 6 + 2) := by rcases e with rfl | rfl <;> rfl
theorem ar2_1 {h : Nat} (e : hh h) : gx_ar (h + 1) = some (0, 5) := by rcases e with rfl | rfl <;> rfl
theorem ar2_2 {h : Nat} (e : hh h) : gx_ar (h + 2) = some (0, 5) := by rcases e with rfl | rfl <;> rfl
theorem ar2_3 {h : Nat} (e : hh h) : gx_ar (h + 3) = some (0, 5) := by rcases e with rfl | rfl <;> rfl
theorem ar2_4 {h : Nat} (e : hh h) : gx_ar (h + 4) = some (0, 4) := by rcases e with rfl | rfl <;> rfl
theorem ar2_5 {h : Nat} (e : hh h) : gx_ar (h + 5) = some (0, 4) := by rcases e with rfl | rfl <;> rfl
theorem ar2_6 {h : Nat} (e : hh h) : gx_ar (h + 6) = some (0, 4) := by rcases e with rfl | rfl <;> rfl
theorem cl2 {h : Nat} (e : hh h) : gx_cl h = some 2 := by rcases e with rfl | rfl <;> rfl
/-! ===== a table: contents, ages, thirsts, the hour ===== -/
abbrev Tb : Type := (Nat → Int32) × (Nat → Int32) × (Nat → Int32) × Int32
def tG (S : gx_S) (t : Nat) : Tb := (S (t + 1), S (t + 2), S (t + 3), S t 4)
def tS (S : gx_S) (t : Nat) (T : Tb) : gx_S := fun i => if i = t + 1 then T.1 else if i = t + 2 then T.2.1 else if i = t + 3 then T.2.2.1 else if i = t then upd (S t) 4 T.2.2.2 else S i
theorem tS_1 (S : gx_S) (t : Nat) (T : Tb) : tS S t T (t + 1) = T.1 := if_pos rfl
theorem tS_2 (S : gx_S) (t : Nat) (T : Tb) : tS S t T (t + 2) = T.2.1 := by simp [tS]
theorem tS_3 (S : gx_S) (t : Nat) (T : Tb) : tS S t T (t + 3) = T.2.2.1 := by simp [tS]
theorem tS_4 (S : gx_S) (t : Nat) (T : Tb) : tS S t T t 4 = T.2.2.2 := by simp [tS, upd]
theorem tS_o (S : gx_S) {t i : Nat} (T : Tb) (h : i < t ∨ t + 3 < i) : tS S t T i = S i := by
  unfold tS
  rw [if_neg (by omega), if_neg (by omega), if_neg (by omega), if_neg (by omega)]
theorem tS_tG (S : gx_S) (t : Nat) : tS S t (tG S t) = S := by
  funext i
  unfold tS tG
  split
  · rename_i h; rw [h]
  · split
    · rename_i h; rw [h]
    · split
      · rename_i h; rw [h]
      · split
        · rename_i h; rw [h, upd_self]
        · rfl
theorem tS_id (S : gx_S) (t : Nat) : tS S t (S (t + 1), S (t + 2), S (t + 3), S t 4) = S := tS_tG S t
theorem tG_tS (S : gx_S) (t : Nat) (T : Tb) : tG (tS S t T) t = T := by
  unfold tG
  rw [tS_1, tS_2, tS_3, tS_4]
theorem tS_tS (S : gx_S) (t : Nat) (T T' : Tb) : tS (tS S t T) t T' = tS S t T' := by
  funext i
  unfold tS
  split
  · rfl
  · split
    · rfl
    · split
      · rfl
      · split
        · rename_i h3 h2 h1 h0
          subst h0
          simp [upd_upd]
        · rfl
theorem tS_u1 (S : gx_S) (t : Nat) (T : Tb) (k : Nat) (x : Int32) : gx_u2 (tS S t T) (t + 1) k x = tS S t (upd T.1 k x, T.2) := by
  funext i
  unfold gx_u2 gx_up tS
  by_cases h : i = t + 1
  · subst h; simp
  · simp [h]
theorem tS_u2 (S : gx_S) (t : Nat) (T : Tb) (k : Nat) (x : Int32) : gx_u2 (tS S t T) (t + 2) k x = tS S t (T.1, upd T.2.1 k x, T.2.2) := by
  funext i
  unfold gx_u2 gx_up tS
  by_cases h : i = t + 2
  · subst h; simp
  · simp [h]
theorem tS_u3 (S : gx_S) (t : Nat) (T : Tb) (k : Nat) (x : Int32) : gx_u2 (tS S t T) (t + 3) k x = tS S t (T.1, T.2.1, upd T.2.2.1 k x, T.2.2.2) := by
  funext i
  unfold gx_u2 gx_up tS
  by_cases h : i = t + 3
  · subst h; simp
  · simp [h]
theorem tS_u4 (S : gx_S) (t : Nat) (T : Tb) (x : Int32) : gx_u2 (tS S t T) t 4 x = tS S t (T.1, T.2.1, T.2.2.1, x) := by
  funext i
  unfold gx_u2 gx_up tS
  by_cases h : i = t
  · subst h; simp [upd_upd]
  · simp [h]
end
section
def p_gulp (k t c : Int32) : Int32 := if (if k = 1 then (if c ≤ 0 then 0 else c - 1) else if k = 2 then c / 2 else if k = 3 then 0 else c) ≤ t then (if k = 1 then (if c ≤ 0 then 0 else c - 1) else if k = 2 then c / 2 else if k = 3 then 0 else c) else t
def isG (n g : Int32) : Bool := decide (¬ g < 0 ∧ ¬ n ≤ g)
def bt (b : Int32) (g : Nat) : Bool := decide (¬ ((b >>> (nI g &&& 31)) &&& 1 = 0))
set_option maxRecDepth 10000 in
theorem c_gulp (d : Nat) (k t c : Int32) (S : gx_S) (L : gx_L) : Cf d mX10_gulp [.int k, .int t, .int c] S L (p_gulp k t c) S L := by
  refine ct_intro (loc := [some (.int k), some (.int t), some (.int c), none]) (by decide) (Nat.le_of_ble_eq_true rfl) rfl ?_
  refine ev_ild2 dX10_gulp_0 ?_
  refine ev_ist3 dX10_gulp_1 ?_
  refine ev_ild0 dX10_gulp_2 ?_
  refine ev_iconst (v := 1) dX10_gulp_3 (by decide) ?_
  refine ev_icmp_ne 22 dX10_gulp_4 (by decide) (fun c_4 => ?_) (fun c_4 => ?_)
  · refine ev_ild0 dX10_gulp_22 ?_
    refine ev_iconst (v := 2) dX10_gulp_23 (by decide) ?_
    refine ev_icmp_ne 34 dX10_gulp_24 (by decide) (fun c_24 => ?_) (fun c_24 => ?_)
    · refine ev_ild0 dX10_gulp_34 ?_
      refine ev_iconst (v := 3) dX10_gulp_35 (by decide) ?_
      refine ev_icmp_ne 41 dX10_gulp_36 (by decide) (fun c_36 => ?_) (fun c_36 => ?_)
      · refine ev_ild1 dX10_gulp_41 ?_
        refine ev_ild3 dX10_gulp_42 ?_
        refine ev_icmp_ge 50 dX10_gulp_43 (by decide) (fun c_43 => ?_) (fun c_43 => ?_)
        · refine ev_ild3 dX10_gulp_50 ?_
          refine ev_iret dX10_gulp_51 ?_
          exact ⟨_, rfl, by first | (simp [p_gulp, *]; done) | simp_all [p_gulp], rfl, rfl⟩
        · refine ev_ild1 dX10_gulp_46 ?_
          refine ev_goto 51 dX10_gulp_47 (by decide) ?_
          refine ev_iret dX10_gulp_51 ?_
          exact ⟨_, rfl, by first | (simp [p_gulp, *]; done) | simp_all [p_gulp], rfl, rfl⟩
      · refine ev_iconst (v := 0) dX10_gulp_39 (by decide) ?_
        refine ev_ist3 dX10_gulp_40 ?_
        refine ev_ild1 dX10_gulp_41 ?_
        refine ev_ild3 dX10_gulp_42 ?_
        refine ev_icmp_ge 50 dX10_gulp_43 (by decide) (fun c_43 => ?_) (fun c_43 => ?_)
        · refine ev_ild3 dX10_gulp_50 ?_
          refine ev_iret dX10_gulp_51 ?_
          exact ⟨_, rfl, by first | (simp [p_gulp, *]; done) | simp_all [p_gulp], rfl, rfl⟩
        · refine ev_ild1 dX10_gulp_46 ?_
          refine ev_goto 51 dX10_gulp_47 (by decide) ?_
          refine ev_iret dX10_gulp_51 ?_
          exact ⟨_, rfl, by first | (simp [p_gulp, *]; done) | simp_all [p_gulp], rfl, rfl⟩
    · refine ev_ild2 dX10_gulp_27 ?_
      refine ev_iconst (v := 2) dX10_gulp_28 (by decide) ?_
      refine ev_idiv dX10_gulp_29 (by decide) ?_
      refine ev_ist3 dX10_gulp_30 ?_
      refine ev_goto 41 dX10_gulp_31 (by decide) ?_
      refine ev_ild1 dX10_gulp_41 ?_
      refine ev_ild3 dX10_gulp_42 ?_
      refine ev_icmp_ge 50 dX10_gulp_43 (by decide) (fun c_43 => ?_) (fun c_43 => ?_)
      · refine ev_ild3 dX10_gulp_50 ?_
        refine ev_iret dX10_gulp_51 ?_
        exact ⟨_, rfl, by first | (simp [p_gulp, *]; done) | simp_all [p_gulp], rfl, rfl⟩
      · refine ev_ild1 dX10_gulp_46 ?_
        refine ev_goto 51 dX10_gulp_47 (by decide) ?_
        refine ev_iret dX10_gulp_51 ?_
        exact ⟨_, rfl, by first | (simp [p_gulp, *]; done) | simp_all [p_gulp], rfl, rfl⟩
  · refine ev_ild2 dX10_gulp_7 ?_
    refine ev_if_le 17 dX10_gulp_8 (by decide) (fun c_8 => ?_) (fun c_8 => ?_)
    · refine ev_iconst (v := 0) dX10_gulp_17 (by decide) ?_
      refine ev_ist3 dX10_gulp_18 ?_
      refine ev_goto 41 dX10_gulp_19 (by decide) ?_
      refine ev_ild1 dX10_gulp_41 ?_
      refine ev_ild3 dX10_gulp_42 ?_
      refine ev_icmp_ge 50 dX10_gulp_43 (by decide) (fun c_43 => ?_) (fun c_43 => ?_)
      · refine ev_ild3 dX10_gulp_50 ?_
        refine ev_iret dX10_gulp_51 ?_
        exact ⟨_, rfl, by first | (simp [p_gulp, *]; done) | simp_all [p_gulp], rfl, rfl⟩
      · refine ev_ild1 dX10_gulp_46 ?_
        refine ev_goto 51 dX10_gulp_47 (by decide) ?_
        refine ev_iret dX10_gulp_51 ?_
        exact ⟨_, rfl, by first | (simp [p_gulp, *]; done) | simp_all [p_gulp], rfl, rfl⟩
    · refine ev_ild2 dX10_gulp_11 ?_
      refine ev_iconst (v := 1) dX10_gulp_12 (by decide) ?_
      refine ev_isub dX10_gulp_13 ?_
      refine ev_goto 18 dX10_gulp_14 (by decide) ?_
      refine ev_ist3 dX10_gulp_18 ?_
      refine ev_goto 41 dX10_gulp_19 (by decide) ?_
      refine ev_ild1 dX10_gulp_41 ?_
      refine ev_ild3 dX10_gulp_42 ?_
      refine ev_icmp_ge 50 dX10_gulp_43 (by decide) (fun c_43 => ?_) (fun c_43 => ?_)
      · refine ev_ild3 dX10_gulp_50 ?_
        refine ev_iret dX10_gulp_51 ?_
        exact ⟨_, rfl, by first | (simp [p_gulp, *]; done) | simp_all [p_gulp], rfl, rfl⟩
      · refine ev_ild1 dX10_gulp_46 ?_
        refine ev_goto 51 dX10_gulp_47 (by decide) ?_
        refine ev_iret dX10_gulp_51 ?_
        exact ⟨_, rfl, by first | (simp [p_gulp, *]; done) | simp_all [p_gulp], rfl, rfl⟩
set_option maxRecDepth 10000 in
theorem c_hasBit (d : Nat) (b : Int32) (g : Nat) (S : gx_S) (L : gx_L) : Cf d mX10_hasBit [.int b, .int (nI g)] S L (gx_b (bt b g)) S L := by
  refine ct_intro (loc := [some (.int b), some (.int (nI g))]) (by decide) (Nat.le_of_ble_eq_true rfl) rfl ?_
  refine ev_ild0 dX10_hasBit_0 ?_
  refine ev_ild1 dX10_hasBit_1 ?_
  refine ev_ishr dX10_hasBit_2 ?_
  refine ev_iconst (v := 1) dX10_hasBit_3 (by decide) ?_
  refine ev_iand dX10_hasBit_4 ?_
  refine ev_if_eq 12 dX10_hasBit_5 (by decide) (fun c_5 => ?_) (fun c_5 => ?_)
  · refine ev_iconst (v := 0) dX10_hasBit_12 (by decide) ?_
    refine ev_zret dX10_hasBit_13 ?_ ?_
    · rfl
    · exact ⟨_, rfl, by first | (simp [gx_b, bt, *]; done) | simp_all [gx_b, bt], rfl, rfl⟩
  · refine ev_iconst (v := 1) dX10_hasBit_8 (by decide) ?_
    refine ev_goto 13 dX10_hasBit_9 (by decide) ?_
    refine ev_zret dX10_hasBit_13 ?_ ?_
    · rfl
    · exact ⟨_, rfl, by first | (simp [gx_b, bt, *]; done) | simp_all [gx_b, bt], rfl, rfl⟩
set_option maxRecDepth 10000 in
theorem c_hasGlass (d : Nat) {h : Nat} (he : hh h) (g : Int32) (S : gx_S) (L : gx_L) : Cf d mX2_hasGlass [.ref h, .int g] S L (gx_b (isG (S h 0) g)) S L := by
  refine ct_intro (loc := [some (.ref h), some (.int g)]) (by decide) (Nat.le_of_ble_eq_true rfl) rfl ?_
  refine ev_ild1 dX2_hasGlass_0 ?_
  refine ev_if_lt 16 dX2_hasGlass_1 (by decide) (fun c_1 => ?_) (fun c_1 => ?_)
  · refine ev_iconst (v := 0) dX2_hasGlass_16 (by decide) ?_
    refine ev_zret dX2_hasGlass_17 ?_ ?_
    · rfl
    · exact ⟨_, rfl, by first | (simp [gx_b, isG, *]; done) | simp_all [gx_b, isG], rfl, rfl⟩
  · refine ev_ild1 dX2_hasGlass_4 ?_
    refine ev_ald0 dX2_hasGlass_5 ?_
    refine ev_geti dX2_hasGlass_6 fl_X2_30 (tp2_0 he) ?_
    refine ev_icmp_ge 16 dX2_hasGlass_9 (by decide) (fun c_9 => ?_) (fun c_9 => ?_)
    · refine ev_iconst (v := 0) dX2_hasGlass_16 (by decide) ?_
      refine ev_zret dX2_hasGlass_17 ?_ ?_
      · rfl
      · exact ⟨_, rfl, by first | (simp [gx_b, isG, *]; done) | simp_all [gx_b, isG], rfl, rfl⟩
    · refine ev_iconst (v := 1) dX2_hasGlass_12 (by decide) ?_
      refine ev_goto 17 dX2_hasGlass_13 (by decide) ?_
      refine ev_zret dX2_hasGlass_17 ?_ ?_
      · rfl
      · exact ⟨_, rfl, by first | (simp [gx_b, isG, *]; done) | simp_all [gx_b, isG], rfl, rfl⟩
set_option maxRecDepth 10000 in
theorem c_hasDrinker (d : Nat) {h : Nat} (he : hh h) (g : Int32) (S : gx_S) (L : gx_L) : Cf d mX2_hasDrinker [.ref h, .int g] S L (gx_b (isG (S h 1) g)) S L := by
  refine ct_intro (loc := [some (.ref h), some (.int g)]) (by decide) (Nat.le_of_ble_eq_true rfl) rfl ?_
  refine ev_ild1 dX2_hasDrinker_0 ?_
  refine ev_if_lt 16 dX2_hasDrinker_1 (by decide) (fun c_1 => ?_) (fun c_1 => ?_)
  · refine ev_iconst (v := 0) dX2_hasDrinker_16 (by decide) ?_
    refine ev_zret dX2_hasDrinker_17 ?_ ?_
    · rfl
    · exact ⟨_, rfl, by first | (simp [gx_b, isG, *]; done) | simp_all [gx_b, isG], rfl, rfl⟩
  · refine ev_ild1 dX2_hasDrinker_4 ?_
    refine ev_ald0 dX2_hasDrinker_5 ?_
    refine ev_geti dX2_hasDrinker_6 fl_X2_34 (tp2_1 he) ?_
    refine ev_icmp_ge 16 dX2_hasDrinker_9 (by decide) (fun c_9 => ?_) (fun c_9 => ?_)
    · refine ev_iconst (v := 0) dX2_hasDrinker_16 (by decide) ?_
      refine ev_zret dX2_hasDrinker_17 ?_ ?_
      · rfl
      · exact ⟨_, rfl, by first | (simp [gx_b, isG, *]; done) | simp_all [gx_b, isG], rfl, rfl⟩
    · refine ev_iconst (v := 1) dX2_hasDrinker_12 (by decide) ?_
      refine ev_goto 17 dX2_hasDrinker_13 (by decide) ?_
      refine ev_zret dX2_hasDrinker_17 ?_ ?_
      · rfl
      · exact ⟨_, rfl, by first | (simp [gx_b, isG, *]; done) | simp_all [gx_b, isG], rfl, rfl⟩
def p_tax (kind measure content age : Int32) : Int32 := 
  let tax0 : Int32 := if age < 3 then content else 0
  let tax : Int32 := if kind = 3 then (if 0 < tax0 - 2 then tax0 - 2 else 0) else tax0
  if ¬ tax ≤ 0 ∧ ¬ 2 * content < measure then tax + 2 else tax
set_option maxRecDepth 10000 in
theorem c_taxOf (d : Nat) {t g : Nat} (ht : tb t) (hg : g < 5) (S : gx_S) (L : gx_L) : Cf (d + 1) mX9_taxOf [.ref t, .int (nI g)] S L (p_tax (S 14 g) (S 12 g) (S (t + 1) g) (S (t + 2) g)) S L := by
  refine ct_intro (loc := [some (.ref t), some (.int (nI g)), none, none, none]) (by decide) (Nat.le_of_ble_eq_true rfl) rfl ?_
  refine ev_ald0 dX9_taxOf_0 ?_
  refine ev_getr (r := t + 1) dX9_taxOf_1 fl_X9_9 (tp9_1 ht) ?_
  refine ev_ild1 dX9_taxOf_4 ?_
  refine ev_iald' dX9_taxOf_5 (ar9_1 ht) (by omega) (by decide) ?_
  refine ev_ist2 dX9_taxOf_6 ?_
  refine ev_ald0 dX9_taxOf_7 ?_
  refine ev_getr (r := t + 2) dX9_taxOf_8 fl_X9_15 (tp9_2 ht) ?_
  refine ev_ild1 dX9_taxOf_11 ?_
  refine ev_iald' dX9_taxOf_12 (ar9_2 ht) (by omega) (by decide) ?_
  refine ev_iconst (v := 3) dX9_taxOf_13 (by decide) ?_
  refine ev_icmp_lt 21 dX9_taxOf_14 (by decide) (fun c_14 => ?_) (fun c_14 => ?_)
  · refine ev_ild2 dX9_taxOf_21 ?_
    refine ev_ist3 dX9_taxOf_22 ?_
    refine ev_ald0 dX9_taxOf_23 ?_
    refine ev_getr (r := 11) dX9_taxOf_24 fl_X9_21 (tp9_0 ht) ?_
    refine ev_getr (r := 14) dX9_taxOf_27 fl_X9_43 rfl ?_
    refine ev_ild1 dX9_taxOf_30 ?_
    refine ev_iald' dX9_taxOf_31 rfl (by omega) (by decide) ?_
    refine ev_iconst (v := 3) dX9_taxOf_32 (by decide) ?_
    refine ev_icmp_ne 44 dX9_taxOf_33 (by decide) (fun c_33 => ?_) (fun c_33 => ?_)
    · refine ev_iconst (v := 2) dX9_taxOf_44 (by decide) ?_
      refine ev_ild2 dX9_taxOf_45 ?_
      refine ev_imul dX9_taxOf_46 ?_
      refine ev_ald0 dX9_taxOf_47 ?_
      refine ev_getr (r := 11) dX9_taxOf_48 fl_X9_21 (tp9_0 ht) ?_
      refine ev_getr (r := 12) dX9_taxOf_51 fl_X9_52 rfl ?_
      refine ev_ild1 dX9_taxOf_54 ?_
      refine ev_iald' dX9_taxOf_55 rfl (by omega) (by decide) ?_
      refine ev_icmp_lt 63 dX9_taxOf_56 (by decide) (fun c_56 => ?_) (fun c_56 => ?_)
      · refine ev_iconst (v := 0) dX9_taxOf_63 (by decide) ?_
        refine ev_ist4 dX9_taxOf_64 ?_
        refine ev_ild3 dX9_taxOf_66 ?_
        refine ev_if_le 81 dX9_taxOf_67 (by decide) (fun c_67 => ?_) (fun c_67 => ?_)
        · refine ev_ild3 dX9_taxOf_81 ?_
          refine ev_iret dX9_taxOf_82 ?_
          exact ⟨_, rfl, by first | (simp [p_tax, *]; done) | simp_all [p_tax], rfl, rfl⟩
        · refine ev_ild4 dX9_taxOf_70 ?_
          refine ev_if_eq_t 81 dX9_taxOf_72 (by decide) (by decide) ?_
          refine ev_ild3 dX9_taxOf_81 ?_
          refine ev_iret dX9_taxOf_82 ?_
          exact ⟨_, rfl, by first | (simp [p_tax, *]; done) | simp_all [p_tax], rfl, rfl⟩
      · refine ev_iconst (v := 1) dX9_taxOf_59 (by decide) ?_
        refine ev_goto 64 dX9_taxOf_60 (by decide) ?_
        refine ev_ist4 dX9_taxOf_64 ?_
        refine ev_ild3 dX9_taxOf_66 ?_
        refine ev_if_le 81 dX9_taxOf_67 (by decide) (fun c_67 => ?_) (fun c_67 => ?_)
        · refine ev_ild3 dX9_taxOf_81 ?_
          refine ev_iret dX9_taxOf_82 ?_
          exact ⟨_, rfl, by first | (simp [p_tax, *]; done) | simp_all [p_tax], rfl, rfl⟩
        · refine ev_ild4 dX9_taxOf_70 ?_
          refine ev_if_eq_f 81 dX9_taxOf_72 (by decide) (by decide) ?_
          refine ev_ild3 dX9_taxOf_75 ?_
          refine ev_iconst (v := 2) dX9_taxOf_76 (by decide) ?_
          refine ev_iadd dX9_taxOf_77 ?_
          refine ev_goto 82 dX9_taxOf_78 (by decide) ?_
          refine ev_iret dX9_taxOf_82 ?_
          exact ⟨_, rfl, by first | (simp [p_tax, *]; done) | simp_all [p_tax], rfl, rfl⟩
    · refine ev_iconst (v := 0) dX9_taxOf_36 (by decide) ?_
      refine ev_ild3 dX9_taxOf_37 ?_
      refine ev_iconst (v := 2) dX9_taxOf_38 (by decide) ?_
      refine ev_isub dX9_taxOf_39 ?_
      refine ev_max dX9_taxOf_40 lk_X9_46 (Nat.le_add_left 1 _) (Nat.le_of_ble_eq_true rfl) ?_
      refine ev_ist3 dX9_taxOf_43 ?_
      refine ev_iconst (v := 2) dX9_taxOf_44 (by decide) ?_
      refine ev_ild2 dX9_taxOf_45 ?_
      refine ev_imul dX9_taxOf_46 ?_
      refine ev_ald0 dX9_taxOf_47 ?_
      refine ev_getr (r := 11) dX9_taxOf_48 fl_X9_21 (tp9_0 ht) ?_
      refine ev_getr (r := 12) dX9_taxOf_51 fl_X9_52 rfl ?_
      refine ev_ild1 dX9_taxOf_54 ?_
      refine ev_iald' dX9_taxOf_55 rfl (by omega) (by decide) ?_
      refine ev_icmp_lt 63 dX9_taxOf_56 (by decide) (fun c_56 => ?_) (fun c_56 => ?_)
      · refine ev_iconst (v := 0) dX9_taxOf_63 (by decide) ?_
        refine ev_ist4 dX9_taxOf_64 ?_
        refine ev_ild3 dX9_taxOf_66 ?_
        refine ev_if_le 81 dX9_taxOf_67 (by decide) (fun c_67 => ?_) (fun c_67 => ?_)
        · refine ev_ild3 dX9_taxOf_81 ?_
          refine ev_iret dX9_taxOf_82 ?_
          exact ⟨_, rfl, by first | (simp [p_tax, *]; done) | simp_all [p_tax], rfl, rfl⟩
        · refine ev_ild4 dX9_taxOf_70 ?_
          refine ev_if_eq_t 81 dX9_taxOf_72 (by decide) (by decide) ?_
          refine ev_ild3 dX9_taxOf_81 ?_
          refine ev_iret dX9_taxOf_82 ?_
          exact ⟨_, rfl, by first | (simp [p_tax, *]; done) | simp_all [p_tax], rfl, rfl⟩
      · refine ev_iconst (v := 1) dX9_taxOf_59 (by decide) ?_
        refine ev_goto 64 dX9_taxOf_60 (by decide) ?_
        refine ev_ist4 dX9_taxOf_64 ?_
        refine ev_ild3 dX9_taxOf_66 ?_
        refine ev_if_le 81 dX9_taxOf_67 (by decide) (fun c_67 => ?_) (fun c_67 => ?_)
        · refine ev_ild3 dX9_taxOf_81 ?_
          refine ev_iret dX9_taxOf_82 ?_
          exact ⟨_, rfl, by first | (simp [p_tax, *]; done) | simp_all [p_tax], rfl, rfl⟩
        · refine ev_ild4 dX9_taxOf_70 ?_
          refine ev_if_eq_f 81 dX9_taxOf_72 (by decide) (by decide) ?_
          refine ev_ild3 dX9_taxOf_75 ?_
          refine ev_iconst (v := 2) dX9_taxOf_76 (by decide) ?_
          refine ev_iadd dX9_taxOf_77 ?_
          refine ev_goto 82 dX9_taxOf_78 (by decide) ?_
          refine ev_iret dX9_taxOf_82 ?_
          exact ⟨_, rfl, by first | (simp [p_tax, *]; done) | simp_all [p_tax], rfl, rfl⟩
  · refine ev_iconst (v := 0) dX9_taxOf_17 (by decide) ?_
    refine ev_goto 22 dX9_taxOf_18 (by decide) ?_
    refine ev_ist3 dX9_taxOf_22 ?_
    refine ev_ald0 dX9_taxOf_23 ?_
    refine ev_getr (r := 11) dX9_taxOf_24 fl_X9_21 (tp9_0 ht) ?_
    refine ev_getr (r := 14) dX9_taxOf_27 fl_X9_43 rfl ?_
    refine ev_ild1 dX9_taxOf_30 ?_
    refine ev_iald' dX9_taxOf_31 rfl (by omega) (by decide) ?_
    refine ev_iconst (v := 3) dX9_taxOf_32 (by decide) ?_
    refine ev_icmp_ne 44 dX9_taxOf_33 (by decide) (fun c_33 => ?_) (fun c_33 => ?_)
    · refine ev_iconst (v := 2) dX9_taxOf_44 (by decide) ?_
      refine ev_ild2 dX9_taxOf_45 ?_
      refine ev_imul dX9_taxOf_46 ?_
      refine ev_ald0 dX9_taxOf_47 ?_
      refine ev_getr (r := 11) dX9_taxOf_48 fl_X9_21 (tp9_0 ht) ?_
      refine ev_getr (r := 12) dX9_taxOf_51 fl_X9_52 rfl ?_
      refine ev_ild1 dX9_taxOf_54 ?_
      refine ev_iald' dX9_taxOf_55 rfl (by omega) (by decide) ?_
      refine ev_icmp_lt 63 dX9_taxOf_56 (by decide) (fun c_56 => ?_) (fun c_56 => ?_)
      · refine ev_iconst (v := 0) dX9_taxOf_63 (by decide) ?_
        refine ev_ist4 dX9_taxOf_64 ?_
        refine ev_ild3 dX9_taxOf_66 ?_
        refine ev_if_le_t 81 dX9_taxOf_67 (by decide) (by decide) ?_
        refine ev_ild3 dX9_taxOf_81 ?_
        refine ev_iret dX9_taxOf_82 ?_
        exact ⟨_, rfl, by first | (simp [p_tax, *]; done) | simp_all [p_tax], rfl, rfl⟩
      · refine ev_iconst (v := 1) dX9_taxOf_59 (by decide) ?_
        refine ev_goto 64 dX9_taxOf_60 (by decide) ?_
        refine ev_ist4 dX9_taxOf_64 ?_
        refine ev_ild3 dX9_taxOf_66 ?_
        refine ev_if_le_t 81 dX9_taxOf_67 (by decide) (by decide) ?_
        refine ev_ild3 dX9_taxOf_81 ?_
        refine ev_iret dX9_taxOf_82 ?_
        exact ⟨_, rfl, by first | (simp [p_tax, *]; done) | simp_all [p_tax], rfl, rfl⟩
    · refine ev_iconst (v := 0) dX9_taxOf_36 (by decide) ?_
      refine ev_ild3 dX9_taxOf_37 ?_
      refine ev_iconst (v := 2) dX9_taxOf_38 (by decide) ?_
      refine ev_isub dX9_taxOf_39 ?_
      refine ev_max dX9_taxOf_40 lk_X9_46 (Nat.le_add_left 1 _) (Nat.le_of_ble_eq_true rfl) ?_
      refine ev_ist3 dX9_taxOf_43 ?_
      refine ev_iconst (v := 2) dX9_taxOf_44 (by decide) ?_
      refine ev_ild2 dX9_taxOf_45 ?_
      refine ev_imul dX9_taxOf_46 ?_
      refine ev_ald0 dX9_taxOf_47 ?_
      refine ev_getr (r := 11) dX9_taxOf_48 fl_X9_21 (tp9_0 ht) ?_
      refine ev_getr (r := 12) dX9_taxOf_51 fl_X9_52 rfl ?_
      refine ev_ild1 dX9_taxOf_54 ?_
      refine ev_iald' dX9_taxOf_55 rfl (by omega) (by decide) ?_
      refine ev_icmp_lt 63 dX9_taxOf_56 (by decide) (fun c_56 => ?_) (fun c_56 => ?_)
      · refine ev_iconst (v := 0) dX9_taxOf_63 (by decide) ?_
        refine ev_ist4 dX9_taxOf_64 ?_
        refine ev_ild3 dX9_taxOf_66 ?_
        refine ev_if_le 81 dX9_taxOf_67 (by decide) (fun c_67 => ?_) (fun c_67 => ?_)
        · refine ev_ild3 dX9_taxOf_81 ?_
          refine ev_iret dX9_taxOf_82 ?_
          exact ⟨_, rfl, by first | (simp [p_tax, *]; done) | simp_all [p_tax], rfl, rfl⟩
        · refine ev_ild4 dX9_taxOf_70 ?_
          refine ev_if_eq_t 81 dX9_taxOf_72 (by decide) (by decide) ?_
          refine ev_ild3 dX9_taxOf_81 ?_
          refine ev_iret dX9_taxOf_82 ?_
          exact ⟨_, rfl, by first | (simp [p_tax, *]; done) | simp_all [p_tax], rfl, rfl⟩
      · refine ev_iconst (v := 1) dX9_taxOf_59 (by decide) ?_
        refine ev_goto 64 dX9_taxOf_60 (by decide) ?_
        refine ev_ist4 dX9_taxOf_64 ?_
        refine ev_ild3 dX9_taxOf_66 ?_
        refine ev_if_le 81 dX9_taxOf_67 (by decide) (fun c_67 => ?_) (fun c_67 => ?_)
        · refine ev_ild3 dX9_taxOf_81 ?_
          refine ev_iret dX9_taxOf_82 ?_
          exact ⟨_, rfl, by first | (simp [p_tax, *]; done) | simp_all [p_tax], rfl, rfl⟩
        · refine ev_ild4 dX9_taxOf_70 ?_
          refine ev_if_eq_f 81 dX9_taxOf_72 (by decide) (by decide) ?_
          refine ev_ild3 dX9_taxOf_75 ?_
          refine ev_iconst (v := 2) dX9_taxOf_76 (by decide) ?_
          refine ev_iadd dX9_taxOf_77 ?_
          refine ev_goto 82 dX9_taxOf_78 (by decide) ?_
          refine ev_iret dX9_taxOf_82 ?_
          exact ⟨_, rfl, by first | (simp [p_tax, *]; done) | simp_all [p_tax], rfl, rfl⟩
set_option maxRecDepth 10000 in
theorem c_roomIn (d : Nat) {t g : Nat} (ht : tb t) (hg : g < 5) (S : gx_S) (L : gx_L) : Cf d mX9_roomIn [.ref t, .int (nI g)] S L (S 12 g - S (t + 1) g) S L := by
  refine ct_intro (loc := [some (.ref t), some (.int (nI g))]) (by decide) (Nat.le_of_ble_eq_true rfl) rfl ?_
  refine ev_ald0 dX9_roomIn_0 ?_
  refine ev_getr (r := 11) dX9_roomIn_1 fl_X9_21 (tp9_0 ht) ?_
  refine ev_getr (r := 12) dX9_roomIn_4 fl_X9_52 rfl ?_
  refine ev_ild1 dX9_roomIn_7 ?_
  refine ev_iald' dX9_roomIn_8 rfl (by omega) (by decide) ?_
  refine ev_ald0 dX9_roomIn_9 ?_
  refine ev_getr (r := t + 1) dX9_roomIn_10 fl_X9_9 (tp9_1 ht) ?_
  refine ev_ild1 dX9_roomIn_13 ?_
  refine ev_iald' dX9_roomIn_14 (ar9_1 ht) (by omega) (by decide) ?_
  refine ev_isub dX9_roomIn_15 ?_
  refine ev_iret dX9_roomIn_16 ?_
  exact ⟨_, rfl, rfl, rfl, rfl⟩
theorem isG_of {n : Nat} {g : Int32} (hn : n < 2 ^ 31) (h : isG (nI n) g = true) : ∃ j, j < n ∧ g = nI j ∧ (nI j).toNatClampNeg = j := by
  have h1 := of_decide_eq_true h
  obtain ⟨j, hj, rfl⟩ := nI_of h1.1
  refine ⟨j, ?_, rfl, nI_clamp hj⟩
  rcases Nat.lt_or_ge j n with h2 | h2
  · exact h2
  · exact absurd (nI_le h2 hj) h1.2
theorem isG_in {n j : Nat} (hn : n < 2 ^ 31) (hj : j < n) : isG (nI n) (nI j) = true := decide_eq_true ⟨nI_pos (by omega), nI_ge hj hn⟩
theorem isG_out {n j : Nat} (hj : j < 2 ^ 31) (h : n ≤ j) : isG (nI n) (nI j) = false := decide_eq_false (fun h9 => h9.2 (nI_le h hj))
end
section
theorem nI_inc (i : Nat) : nI i + Int32.ofInt 1 = nI (i + 1) := nI_1 i
def p_taxesN (gk ms c a : Nat → Int32) : Nat → Int32
  | 0 => 0
  | n + 1 => p_taxesN gk ms c a n + p_tax (gk n) (ms n) (c n) (a n)
def p_taxes (gk ms : Nat → Int32) (T : Tb) : Int32 := p_taxesN gk ms T.1 T.2.1 5
def p_thN (th : Nat → Int32) : Nat → Int32
  | 0 => 0
  | n + 1 => p_thN th n + th n
def p_thirst (T : Tb) : Int32 := p_thN T.2.2.1 4
/-- a drinker drinks of a glass: what is drunk, the table -/
def p_sw (dk : Nat → Int32) (T : Tb) (d g : Nat) : Int32 := p_gulp (dk d) (T.2.2.1 d) (T.1 g)
def p_swT (dk : Nat → Int32) (T : Tb) (d g : Nat) : Tb := (upd T.1 g (T.1 g - p_sw dk T d g), T.2.1, upd T.2.2.1 d (T.2.2.1 d - p_sw dk T d g), T.2.2.2)
def p_aroundN (dk sb : Nat → Int32) (T : Tb) (d : Nat) : Nat → Tb
  | 0 => T
  | n + 1 => if bt (sb d) n = true then p_swT dk (p_aroundN dk sb T d n) d n else p_aroundN dk sb T d n
def p_around (dk sb : Nat → Int32) (T : Tb) (d : Nat) : Tb := p_aroundN dk sb T d 5
def p_evN (dk sb : Nat → Int32) (some : Int32) (T : Tb) : Nat → Tb
  | 0 => T
  | n + 1 => if bt some n = true then p_around dk sb (p_evN dk sb some T n) n else p_evN dk sb some T n
def p_ev (dk sb : Nat → Int32) (some : Int32) (T : Tb) : Tb := p_evN dk sb some T 4
set_option maxRecDepth 10000 in
theorem l_taxes (d : Nat) {t : Nat} (ht : tb t) (S : gx_S) (L : gx_L) {Q : Option Value → gx_S → gx_L → Prop}  (kk : Ev mX9_taxes (d + 2) 23 [some (.ref t), some (.int (p_taxesN (S 14) (S 12) (S (t + 1)) (S (t + 2)) (5))), some (.int (nI (5)))] [] (S) L Q) : ∀ (n i : Nat), i + n = 5 → Ev mX9_taxes (d + 2) 4 [some (.ref t), some (.int (p_taxesN (S 14) (S 12) (S (t + 1)) (S (t + 2)) (i))), some (.int (nI (i)))] [] (S) L Q := by
  intro n
  induction n with
  | zero =>
    intro i hi
    obtain rfl : i = 5 := hi
    refine ev_ild2 dX9_taxes_4 ?_
    refine ev_iconst (v := 5) dX9_taxes_5 (by decide) ?_
    refine ev_icmp_ge_t 23 dX9_taxes_6 (by decide) (by decide) ?_
    exact kk
  | succ n ih =>
    intro i hi
    refine ev_ild2 dX9_taxes_4 ?_
    refine ev_iconst (v := 5) dX9_taxes_5 (by decide) ?_
    refine ev_icmp_ge_f 23 dX9_taxes_6 (by decide) (nI_ge (b := 5) (by omega) (by decide)) ?_
    refine ev_ild1 dX9_taxes_9 ?_
    refine ev_ald0 dX9_taxes_10 ?_
    refine ev_ild2 dX9_taxes_11 ?_
    refine ev_V1i (M' := mX9_taxOf) dX9_taxes_12 lk_X9_55 vX9_taxOf (cl9 ht) (c_taxOf d ht (by omega) S L) (Nat.le_refl _) (Nat.le_of_ble_eq_true rfl) ?_
    refine ev_iadd dX9_taxes_15 ?_
    refine ev_ist1 dX9_taxes_16 ?_
    refine ev_inc2 dX9_taxes_17 (nI_inc _) ?_
    refine ev_goto 4 dX9_taxes_20 (by decide) ?_
    exact ih (i + 1) (by omega)
set_option maxRecDepth 10000 in
theorem c_taxes (d : Nat) {t : Nat} (ht : tb t) (S : gx_S) (L : gx_L) : Cf (d + 2) mX9_taxes [.ref t] S L (p_taxes (S 14) (S 12) (tG S t)) S L := by
  refine ct_intro (loc := [some (.ref t), none, none]) (by decide) (Nat.le_of_ble_eq_true rfl) rfl ?_
  refine ev_iconst (v := 0) dX9_taxes_0 (by decide) ?_
  refine ev_ist1 dX9_taxes_1 ?_
  refine ev_iconst (v := 0) dX9_taxes_2 (by decide) ?_
  refine ev_ist2 dX9_taxes_3 ?_
  refine l_taxes d ht S L ?_ 5 0 rfl
  refine ev_ild1 dX9_taxes_23 ?_
  refine ev_iret dX9_taxes_24 ?_
  exact ⟨_, rfl, rfl, rfl, rfl⟩
set_option maxRecDepth 10000 in
theorem l_thirst (d : Nat) {t : Nat} (ht : tb t) (S : gx_S) (L : gx_L) {Q : Option Value → gx_S → gx_L → Prop}  (kk : Ev mX9_thirstOfAll (d) 24 [some (.ref t), some (.int (p_thN (S (t + 3)) (4))), some (.int (nI (4)))] [] (S) L Q) : ∀ (n i : Nat), i + n = 4 → Ev mX9_thirstOfAll (d) 4 [some (.ref t), some (.int (p_thN (S (t + 3)) (i))), some (.int (nI (i)))] [] (S) L Q := by
  intro n
  induction n with
  | zero =>
    intro i hi
    obtain rfl : i = 4 := hi
    refine ev_ild2 dX9_thirstOfAll_4 ?_
    refine ev_iconst (v := 4) dX9_thirstOfAll_5 (by decide) ?_
    refine ev_icmp_ge_t 24 dX9_thirstOfAll_6 (by decide) (by decide) ?_
    exact kk
  | succ n ih =>
    intro i hi
    refine ev_ild2 dX9_thirstOfAll_4 ?_
    refine ev_iconst (v := 4) dX9_thirstOfAll_5 (by decide) ?_
    refine ev_icmp_ge_f 24 dX9_thirstOfAll_6 (by decide) (nI_ge (b := 4) (by omega) (by decide)) ?_
    refine ev_ild1 dX9_thirstOfAll_9 ?_
    refine ev_ald0 dX9_thirstOfAll_10 ?_
    refine ev_getr (r := t + 3) dX9_thirstOfAll_11 fl_X9_18 (tp9_3 ht) ?_
    refine ev_ild2 dX9_thirstOfAll_14 ?_
    refine ev_iald' dX9_thirstOfAll_15 (ar9_3 ht) (by omega) (by decide) ?_
    refine ev_iadd dX9_thirstOfAll_16 ?_
    refine ev_ist1 dX9_thirstOfAll_17 ?_
    refine ev_inc2 dX9_thirstOfAll_18 (nI_inc _) ?_
    refine ev_goto 4 dX9_thirstOfAll_21 (by decide) ?_
    exact ih (i + 1) (by omega)
set_option maxRecDepth 10000 in
theorem c_thirstOfAll (d : Nat) {t : Nat} (ht : tb t) (S : gx_S) (L : gx_L) : Cf d mX9_thirstOfAll [.ref t] S L (p_thirst (tG S t)) S L := by
  refine ct_intro (loc := [some (.ref t), none, none]) (by decide) (Nat.le_of_ble_eq_true rfl) rfl ?_
  refine ev_iconst (v := 0) dX9_thirstOfAll_0 (by decide) ?_
  refine ev_ist1 dX9_thirstOfAll_1 ?_
  refine ev_iconst (v := 0) dX9_thirstOfAll_2 (by decide) ?_
  refine ev_ist2 dX9_thirstOfAll_3 ?_
  refine l_thirst d ht S L ?_ 4 0 rfl
  refine ev_ild1 dX9_thirstOfAll_24 ?_
  refine ev_iret dX9_thirstOfAll_25 ?_
  exact ⟨_, rfl, rfl, rfl, rfl⟩
theorem sw_mem (S : gx_S) {t d g : Nat} (ht : tb t) (n : Int32) : gx_u2 (gx_u2 S (t + 1) g (S (t + 1) g - n)) (t + 3) d (gx_u2 S (t + 1) g (S (t + 1) g - n) (t + 3) d - n) = tS S t (upd (S (t + 1)) g (S (t + 1) g - n), S (t + 2), upd (S (t + 3)) d (S (t + 3) d - n), S t 4) := by
  rw [u2_o S g _ (show t + 3 ≠ t + 1 by omega)]
  have h := tS_tG S t
  have h1 : gx_u2 S (t + 1) g (S (t + 1) g - n) = tS S t (upd (S (t + 1)) g (S (t + 1) g - n), S (t + 2), S (t + 3), S t 4) := by
    conv => lhs; rw [← h]
    rw [tS_u1, tS_1]
    rfl
  rw [h1, tS_u3]
set_option maxRecDepth 10000 in
theorem c_swallow (d : Nat) {t dr g : Nat} (ht : tb t) (hd : dr < 4) (hg : g < 5) (S : gx_S) (L : gx_L) : Cf (d + 1) mX9_swallow [.ref t, .int (nI dr), .int (nI g)] S L (p_sw (S 16) (tG S t) dr g) (tS S t (p_swT (S 16) (tG S t) dr g)) L := by
  refine ct_intro (loc := [some (.ref t), some (.int (nI dr)), some (.int (nI g)), none]) (by decide) (Nat.le_of_ble_eq_true rfl) rfl ?_
  refine ev_ald0 dX9_swallow_0 ?_
  refine ev_getr (r := 11) dX9_swallow_1 fl_X9_21 (tp9_0 ht) ?_
  refine ev_getr (r := 16) dX9_swallow_4 fl_X9_63 rfl ?_
  refine ev_ild1 dX9_swallow_7 ?_
  refine ev_iald' dX9_swallow_8 rfl (by omega) (by decide) ?_
  refine ev_ald0 dX9_swallow_9 ?_
  refine ev_getr (r := t + 3) dX9_swallow_10 fl_X9_18 (tp9_3 ht) ?_
  refine ev_ild1 dX9_swallow_13 ?_
  refine ev_iald' dX9_swallow_14 (ar9_3 ht) (by omega) (by decide) ?_
  refine ev_ald0 dX9_swallow_15 ?_
  refine ev_getr (r := t + 1) dX9_swallow_16 fl_X9_9 (tp9_1 ht) ?_
  refine ev_ild2 dX9_swallow_19 ?_
  refine ev_iald' dX9_swallow_20 (ar9_1 ht) (by omega) (by decide) ?_
  refine ev_S3i (M' := mX10_gulp) dX9_swallow_21 lk_X9_66 sX10_gulp (c_gulp d _ _ _ _ _) (Nat.le_refl _) (Nat.le_of_ble_eq_true rfl) ?_
  refine ev_ist3 dX9_swallow_24 ?_
  refine ev_ald0 dX9_swallow_25 ?_
  refine ev_getr (r := t + 1) dX9_swallow_26 fl_X9_9 (tp9_1 ht) ?_
  refine ev_ild2 dX9_swallow_29 ?_
  refine ev_dup2 dX9_swallow_30 ?_
  refine ev_iald' dX9_swallow_31 (ar9_1 ht) (by omega) (by decide) ?_
  refine ev_ild3 dX9_swallow_32 ?_
  refine ev_isub dX9_swallow_33 ?_
  refine ev_iast' dX9_swallow_34 (ar9_1 ht) (by omega) (by decide) ?_
  refine ev_ald0 dX9_swallow_35 ?_
  refine ev_getr (r := t + 3) dX9_swallow_36 fl_X9_18 (tp9_3 ht) ?_
  refine ev_ild1 dX9_swallow_39 ?_
  refine ev_dup2 dX9_swallow_40 ?_
  refine ev_iald' dX9_swallow_41 (ar9_3 ht) (by omega) (by decide) ?_
  refine ev_ild3 dX9_swallow_42 ?_
  refine ev_isub dX9_swallow_43 ?_
  refine ev_iast' dX9_swallow_44 (ar9_3 ht) (by omega) (by decide) ?_
  refine ev_ild3 dX9_swallow_45 ?_
  refine ev_iret dX9_swallow_46 ?_
  exact ⟨_, rfl, rfl, sw_mem S ht _, rfl⟩
theorem p_aroundN_S {S : gx_S} {t dr : Nat} (ht : tb t) (T : Tb) : (tS S t T) 16 = S 16 ∧ (tS S t T) 17 = S 17 ∧ (tS S t T) 12 = S 12 ∧ (tS S t T) 14 = S 14 ∧ (tS S t T) 11 = S 11 := by
  have h := tb_ge ht
  exact ⟨tS_o S T (by omega), tS_o S T (by omega), tS_o S T (by omega), tS_o S T (by omega), tS_o S T (by omega)⟩
theorem c_swallowT (d : Nat) {t dr g : Nat} (ht : tb t) (hd : dr < 4) (hg : g < 5) (S : gx_S) (T : Tb) (L : gx_L) : Cf (d + 1) mX9_swallow [.ref t, .int (nI dr), .int (nI g)] (tS S t T) L (p_sw (S 16) T dr g) (tS S t (p_swT (S 16) T dr g)) L := by
  have h := c_swallow d ht hd hg (tS S t T) L
  rw [tG_tS, tS_tS, (p_aroundN_S (dr := dr) ht T).1] at h
  exact h
set_option maxRecDepth 10000 in
theorem l_around (d : Nat) {t dr : Nat} (ht : tb t) (hd : dr < 4) (S : gx_S) (L : gx_L) {Q : Option Value → gx_S → gx_L → Prop}  (kk : Ev mX9_drinkAround (d + 2) 38 [some (.ref t), some (.int (nI dr)), some (.int (S 17 dr)), some (.int (nI (5)))] [] (tS S t (p_aroundN (S 16) (S 17) (tG S t) dr (5))) L Q) : ∀ (n i : Nat), i + n = 5 → Ev mX9_drinkAround (d + 2) 12 [some (.ref t), some (.int (nI dr)), some (.int (S 17 dr)), some (.int (nI (i)))] [] (tS S t (p_aroundN (S 16) (S 17) (tG S t) dr (i))) L Q := by
  intro n
  induction n with
  | zero =>
    intro i hi
    obtain rfl : i = 5 := hi
    refine ev_ild3 dX9_drinkAround_12 ?_
    refine ev_iconst (v := 5) dX9_drinkAround_13 (by decide) ?_
    refine ev_icmp_ge_t 38 dX9_drinkAround_14 (by decide) (by decide) ?_
    exact kk
  | succ n ih =>
    intro i hi
    refine ev_ild3 dX9_drinkAround_12 ?_
    refine ev_iconst (v := 5) dX9_drinkAround_13 (by decide) ?_
    refine ev_icmp_ge_f 38 dX9_drinkAround_14 (by decide) (nI_ge (b := 5) (by omega) (by decide)) ?_
    refine ev_ild2 dX9_drinkAround_17 ?_
    refine ev_ild3 dX9_drinkAround_18 ?_
    refine ev_S2i (M' := mX10_hasBit) dX9_drinkAround_19 lk_X9_106 sX10_hasBit (c_hasBit (d + 1) _ _ _ _) (Nat.le_refl _) (Nat.le_of_ble_eq_true rfl) ?_
    refine ev_if_eq 32 dX9_drinkAround_22 (by decide) (fun c_22 => ?_) (fun c_22 => ?_)
    · have b_22 := gx_b_n.mp c_22
      refine ev_inc3 dX9_drinkAround_32 (nI_inc _) ?_
      refine ev_goto 12 dX9_drinkAround_35 (by decide) ?_
      have e := ih (i + 1) (by omega)
      simp only [p_aroundN] at e
      simp only [if_neg b_22, ite_self] at e
      exact e
    · have b_22 := gx_b_y.mp c_22
      refine ev_ald0 dX9_drinkAround_25 ?_
      refine ev_ild1 dX9_drinkAround_26 ?_
      refine ev_ild3 dX9_drinkAround_27 ?_
      refine ev_V2i (M' := mX9_swallow) dX9_drinkAround_28 lk_X9_83 vX9_swallow (cl9 ht) (c_swallowT d ht hd (by omega) S _ L) (Nat.le_refl _) (Nat.le_of_ble_eq_true rfl) ?_
      refine ev_popi dX9_drinkAround_31 ?_
      refine ev_inc3 dX9_drinkAround_32 (nI_inc _) ?_
      refine ev_goto 12 dX9_drinkAround_35 (by decide) ?_
      have e := ih (i + 1) (by omega)
      simp only [p_aroundN] at e
      simp only [if_pos b_22, ite_self] at e
      exact e
set_option maxRecDepth 10000 in
theorem c_drinkAround (d : Nat) {t dr : Nat} (ht : tb t) (hd : dr < 4) (S : gx_S) (L : gx_L) : Cw (d + 2) mX9_drinkAround [.ref t, .int (nI dr)] S L (tS S t (p_around (S 16) (S 17) (tG S t) dr)) L := by
  refine ct_intro (loc := [some (.ref t), some (.int (nI dr)), none, none]) (by decide) (Nat.le_of_ble_eq_true rfl) rfl ?_
  refine ev_ald0 dX9_drinkAround_0 ?_
  refine ev_getr (r := 11) dX9_drinkAround_1 fl_X9_21 (tp9_0 ht) ?_
  refine ev_getr (r := 17) dX9_drinkAround_4 fl_X9_112 rfl ?_
  refine ev_ild1 dX9_drinkAround_7 ?_
  refine ev_iald' dX9_drinkAround_8 rfl (by omega) (by decide) ?_
  refine ev_ist2 dX9_drinkAround_9 ?_
  refine ev_iconst (v := 0) dX9_drinkAround_10 (by decide) ?_
  refine ev_ist3 dX9_drinkAround_11 ?_
  refine ev_mem (tS_tG S t).symm ?_
  refine l_around d ht hd S L ?_ 5 0 rfl
  refine ev_vret dX9_drinkAround_38 ?_
  exact ⟨rfl, rfl, rfl⟩
theorem c_drinkAroundT (d : Nat) {t dr : Nat} (ht : tb t) (hd : dr < 4) (S : gx_S) (T : Tb) (L : gx_L) : Cw (d + 2) mX9_drinkAround [.ref t, .int (nI dr)] (tS S t T) L (tS S t (p_around (S 16) (S 17) T dr)) L := by
  have h := c_drinkAround d ht hd (tS S t T) L
  rw [tG_tS, tS_tS, (p_aroundN_S (dr := dr) ht T).1, (p_aroundN_S (dr := dr) ht T).2.1] at h
  exact h
set_option maxRecDepth 10000 in
theorem l_passEv (d : Nat) {t : Nat} (ht : tb t) (so : Int32) (S : gx_S) (L : gx_L) {Q : Option Value → gx_S → gx_L → Prop}  (kk : Ev mX9_passEvening (d + 3) 26 [some (.ref t), some (.int so), some (.int (nI (4)))] [] (tS S t (p_evN (S 16) (S 17) so (tG S t) (4))) L Q) : ∀ (n i : Nat), i + n = 4 → Ev mX9_passEvening (d + 3) 2 [some (.ref t), some (.int so), some (.int (nI (i)))] [] (tS S t (p_evN (S 16) (S 17) so (tG S t) (i))) L Q := by
  intro n
  induction n with
  | zero =>
    intro i hi
    obtain rfl : i = 4 := hi
    refine ev_ild2 dX9_passEvening_2 ?_
    refine ev_iconst (v := 4) dX9_passEvening_3 (by decide) ?_
    refine ev_icmp_ge_t 26 dX9_passEvening_4 (by decide) (by decide) ?_
    exact kk
  | succ n ih =>
    intro i hi
    refine ev_ild2 dX9_passEvening_2 ?_
    refine ev_iconst (v := 4) dX9_passEvening_3 (by decide) ?_
    refine ev_icmp_ge_f 26 dX9_passEvening_4 (by decide) (nI_ge (b := 4) (by omega) (by decide)) ?_
    refine ev_ild1 dX9_passEvening_7 ?_
    refine ev_ild2 dX9_passEvening_8 ?_
    refine ev_S2i (M' := mX10_hasBit) dX9_passEvening_9 lk_X9_106 sX10_hasBit (c_hasBit (d + 2) _ _ _ _) (Nat.le_refl _) (Nat.le_of_ble_eq_true rfl) ?_
    refine ev_if_eq 20 dX9_passEvening_12 (by decide) (fun c_12 => ?_) (fun c_12 => ?_)
    · have b_12 := gx_b_n.mp c_12
      refine ev_inc2 dX9_passEvening_20 (nI_inc _) ?_
      refine ev_goto 2 dX9_passEvening_23 (by decide) ?_
      have e := ih (i + 1) (by omega)
      simp only [p_evN] at e
      simp only [if_neg b_12, ite_self] at e
      exact e
    · have b_12 := gx_b_y.mp c_12
      refine ev_ald0 dX9_passEvening_15 ?_
      refine ev_ild2 dX9_passEvening_16 ?_
      refine ev_V1v (M' := mX9_drinkAround) dX9_passEvening_17 lk_X9_109 vX9_drinkAround (cl9 ht) (c_drinkAroundT d ht (by omega) S _ L) (Nat.le_refl _) (Nat.le_of_ble_eq_true rfl) ?_
      refine ev_inc2 dX9_passEvening_20 (nI_inc _) ?_
      refine ev_goto 2 dX9_passEvening_23 (by decide) ?_
      have e := ih (i + 1) (by omega)
      simp only [p_evN] at e
      simp only [if_pos b_12, ite_self] at e
      exact e
set_option maxRecDepth 10000 in
theorem c_passEvening (d : Nat) {t : Nat} (ht : tb t) (so : Int32) (S : gx_S) (L : gx_L) : Cw (d + 3) mX9_passEvening [.ref t, .int so] S L (tS S t (p_ev (S 16) (S 17) so (tG S t))) L := by
  refine ct_intro (loc := [some (.ref t), some (.int so), none]) (by decide) (Nat.le_of_ble_eq_true rfl) rfl ?_
  refine ev_iconst (v := 0) dX9_passEvening_0 (by decide) ?_
  refine ev_ist2 dX9_passEvening_1 ?_
  refine ev_mem (tS_tG S t).symm ?_
  refine l_passEv d ht so S L ?_ 4 0 rfl
  refine ev_vret dX9_passEvening_26 ?_
  exact ⟨rfl, rfl, rfl⟩
end
section
theorem tG_o (S : gx_S) {u t : Nat} (T : Tb) (h : t + 3 < u ∨ u + 3 < t) : tG (tS S u T) t = tG S t := by
  unfold tG
  rw [tS_o S T (by omega), tS_o S T (by omega), tS_o S T (by omega), tS_o S T (by omega)]
/-- contents, ages beyond the glasses that may be, thirsts beyond the drinkers: nought -/
def zT (T : Tb) : Prop := (∀ j, 5 ≤ j → T.1 j = 0 ∧ T.2.1 j = 0) ∧ ∀ j, 4 ≤ j → T.2.2.1 j = 0
theorem cpy_all {f g : Nat → Int32} {n : Nat} (h : ∀ j, n ≤ j → f j = g j) : va_cpy f g 0 0 n = f := by
  funext k
  unfold va_cpy
  by_cases hk : k < n
  · rw [if_pos ⟨Nat.zero_le _, by omega⟩]
    congr 1
    omega
  · rw [if_neg (by omega)]
    exact (h k (by omega)).symm
theorem copy_mem (S : gx_S) {t u : Nat} (ht : tb t) (hu : tb u) (hne : t ≠ u) (hz : zT (tG S t)) (hy : zT (tG S u)) :
    gx_u2 (gx_up (gx_up (gx_up S (t + 1) (va_cpy (S (u + 1)) (S (t + 1)) 0 0 5)) (t + 2) (va_cpy (gx_up S (t + 1) (va_cpy (S (u + 1)) (S (t + 1)) 0 0 5) (u + 2)) (gx_up S (t + 1) (va_cpy (S (u + 1)) (S (t + 1)) 0 0 5) (t + 2)) 0 0 5)) (t + 3) (va_cpy (gx_up (gx_up S (t + 1) (va_cpy (S (u + 1)) (S (t + 1)) 0 0 5)) (t + 2) (va_cpy (gx_up S (t + 1) (va_cpy (S (u + 1)) (S (t + 1)) 0 0 5) (u + 2)) (gx_up S (t + 1) (va_cpy (S (u + 1)) (S (t + 1)) 0 0 5) (t + 2)) 0 0 5) (u + 3)) (gx_up (gx_up S (t + 1) (va_cpy (S (u + 1)) (S (t + 1)) 0 0 5)) (t + 2) (va_cpy (gx_up S (t + 1) (va_cpy (S (u + 1)) (S (t + 1)) 0 0 5) (u + 2)) (gx_up S (t + 1) (va_cpy (S (u + 1)) (S (t + 1)) 0 0 5) (t + 2)) 0 0 5) (t + 3)) 0 0 4)) t 4 (gx_up (gx_up (gx_up S (t + 1) (va_cpy (S (u + 1)) (S (t + 1)) 0 0 5)) (t + 2) (va_cpy (gx_up S (t + 1) (va_cpy (S (u + 1)) (S (t + 1)) 0 0 5) (u + 2)) (gx_up S (t + 1) (va_cpy (S (u + 1)) (S (t + 1)) 0 0 5) (t + 2)) 0 0 5)) (t + 3) (va_cpy (gx_up (gx_up S (t + 1) (va_cpy (S (u + 1)) (S (t + 1)) 0 0 5)) (t + 2) (va_cpy (gx_up S (t + 1) (va_cpy (S (u + 1)) (S (t + 1)) 0 0 5) (u + 2)) (gx_up S (t + 1) (va_cpy (S (u + 1)) (S (t + 1)) 0 0 5) (t + 2)) 0 0 5) (u + 3)) (gx_up (gx_up S (t + 1) (va_cpy (S (u + 1)) (S (t + 1)) 0 0 5)) (t + 2) (va_cpy (gx_up S (t + 1) (va_cpy (S (u + 1)) (S (t + 1)) 0 0 5) (u + 2)) (gx_up S (t + 1) (va_cpy (S (u + 1)) (S (t + 1)) 0 0 5) (t + 2)) 0 0 5) (t + 3)) 0 0 4) u 4) = tS S t (tG S u) := by
  have n1 : u + 2 ≠ t + 1 := by rcases ht with rfl | rfl | rfl <;> rcases hu with rfl | rfl | rfl <;> omega
  have n2 : u + 3 ≠ t + 1 := by rcases ht with rfl | rfl | rfl <;> rcases hu with rfl | rfl | rfl <;> omega
  have n3 : u + 3 ≠ t + 2 := by rcases ht with rfl | rfl | rfl <;> rcases hu with rfl | rfl | rfl <;> omega
  have n4 : u ≠ t + 1 ∧ u ≠ t + 2 ∧ u ≠ t + 3 := by rcases ht with rfl | rfl | rfl <;> rcases hu with rfl | rfl | rfl <;> omega
  have e1 : va_cpy (S (u + 1)) (S (t + 1)) 0 0 5 = S (u + 1) := cpy_all (fun j h => (hy.1 j h).1.trans (hz.1 j h).1.symm)
  have e2 : va_cpy (S (u + 2)) (S (t + 2)) 0 0 5 = S (u + 2) := cpy_all (fun j h => (hy.1 j h).2.trans (hz.1 j h).2.symm)
  have e3 : va_cpy (S (u + 3)) (S (t + 3)) 0 0 4 = S (u + 3) := cpy_all (fun j h => (hy.2 j h).trans (hz.2 j h).symm)
  simp only [e1, gx_up_ne _ _ n1, gx_up_ne _ _ n2, gx_up_ne _ _ n3, gx_up_ne _ _ (show t + 2 ≠ t + 1 by omega), gx_up_ne _ _ (show t + 3 ≠ t + 1 by omega), gx_up_ne _ _ (show t + 3 ≠ t + 2 by omega), e2, e3, gx_up_ne _ _ n4.1, gx_up_ne _ _ n4.2.1, gx_up_ne _ _ n4.2.2]
  funext i
  unfold gx_u2 gx_up tS tG
  by_cases h0 : i = t
  · subst h0
    simp
  · by_cases h1 : i = t + 1
    · subst h1; simp
    · by_cases h2 : i = t + 2
      · subst h2; simp
      · by_cases h3 : i = t + 3
        · subst h3; simp
        · simp [h0, h1, h2, h3]
set_option maxRecDepth 10000 in
theorem c_copyFrom (d : Nat) {t u : Nat} (ht : tb t) (hu : tb u) (hne : t ≠ u) (S : gx_S) (hz : zT (tG S t)) (hy : zT (tG S u)) (L : gx_L) : Cw (d + 1) mX9_copyFrom [.ref t, .ref u] S L (tS S t (tG S u)) L := by
  refine ct_intro (loc := [some (.ref t), some (.ref u)]) (by decide) (Nat.le_of_ble_eq_true rfl) rfl ?_
  refine ev_ald1 dX9_copyFrom_0 ?_
  refine ev_getr (r := u + 1) dX9_copyFrom_1 fl_X9_9 (tp9_1 hu) ?_
  refine ev_iconst (v := 0) dX9_copyFrom_4 (by decide) ?_
  refine ev_ald0 dX9_copyFrom_5 ?_
  refine ev_getr (r := t + 1) dX9_copyFrom_6 fl_X9_9 (tp9_1 ht) ?_
  refine ev_iconst (v := 0) dX9_copyFrom_9 (by decide) ?_
  refine ev_iconst (v := 5) dX9_copyFrom_10 (by decide) ?_
  refine ev_copy dX9_copyFrom_11 lk_X9_25 (Nat.le_add_left 1 _) (Nat.le_of_ble_eq_true rfl) (ar9_1 hu) (ar9_1 ht) rfl rfl rfl (by decide) (by decide) (by decide) (by decide) ?_
  refine ev_ald1 dX9_copyFrom_14 ?_
  refine ev_getr (r := u + 2) dX9_copyFrom_15 fl_X9_15 (tp9_2 hu) ?_
  refine ev_iconst (v := 0) dX9_copyFrom_18 (by decide) ?_
  refine ev_ald0 dX9_copyFrom_19 ?_
  refine ev_getr (r := t + 2) dX9_copyFrom_20 fl_X9_15 (tp9_2 ht) ?_
  refine ev_iconst (v := 0) dX9_copyFrom_23 (by decide) ?_
  refine ev_iconst (v := 5) dX9_copyFrom_24 (by decide) ?_
  refine ev_copy dX9_copyFrom_25 lk_X9_25 (Nat.le_add_left 1 _) (Nat.le_of_ble_eq_true rfl) (ar9_2 hu) (ar9_2 ht) rfl rfl rfl (by decide) (by decide) (by decide) (by decide) ?_
  refine ev_ald1 dX9_copyFrom_28 ?_
  refine ev_getr (r := u + 3) dX9_copyFrom_29 fl_X9_18 (tp9_3 hu) ?_
  refine ev_iconst (v := 0) dX9_copyFrom_32 (by decide) ?_
  refine ev_ald0 dX9_copyFrom_33 ?_
  refine ev_getr (r := t + 3) dX9_copyFrom_34 fl_X9_18 (tp9_3 ht) ?_
  refine ev_iconst (v := 0) dX9_copyFrom_37 (by decide) ?_
  refine ev_iconst (v := 4) dX9_copyFrom_38 (by decide) ?_
  refine ev_copy dX9_copyFrom_39 lk_X9_25 (Nat.le_add_left 1 _) (Nat.le_of_ble_eq_true rfl) (ar9_3 hu) (ar9_3 ht) rfl rfl rfl (by decide) (by decide) (by decide) (by decide) ?_
  refine ev_ald0 dX9_copyFrom_42 ?_
  refine ev_ald1 dX9_copyFrom_43 ?_
  refine ev_geti dX9_copyFrom_44 fl_X9_31 (tp9_4 hu) ?_
  refine ev_puti dX9_copyFrom_47 fp_X9_31 (tp9_4 ht) ?_
  refine ev_vret dX9_copyFrom_50 ?_
  exact ⟨rfl, copy_mem S ht hu hne hz hy, rfl⟩
/-- the acts on a table: the answer, the table -/
def p_pour (ng : Int32) (ms : Nat → Int32) (T : Tb) (g n : Int32) : Int32 × Tb :=
  if isG ng g = true then
    if n < 1 then (-2, T) else if n ≤ 9 then
      (let w : Int32 := if ms g.toNatClampNeg - T.1 g.toNatClampNeg < n then ms g.toNatClampNeg - T.1 g.toNatClampNeg else n
       if 0 < w then (w, (upd T.1 g.toNatClampNeg (T.1 g.toNatClampNeg + w), upd T.2.1 g.toNatClampNeg 0, T.2.2)) else (-3, T)) else (-2, T)
  else (-1, T)
def p_drink (ng nd : Int32) (dk sb : Nat → Int32) (T : Tb) (d g : Int32) : Int32 × Tb :=
  if isG nd d = true then (if isG ng g = true then
    (if bt (sb d.toNatClampNeg) g.toNatClampNeg = true then (p_sw dk T d.toNatClampNeg g.toNatClampNeg, p_swT dk T d.toNatClampNeg g.toNatClampNeg) else (-3, T))
  else (-1, T)) else (-1, T)
def p_tip (ng : Int32) (ms : Nat → Int32) (T : Tb) (g o : Int32) : Int32 × Tb :=
  if isG ng g = true then (if isG ng o = true then
    if g = o then (-2, T) else
      (let w : Int32 := if ms o.toNatClampNeg - T.1 o.toNatClampNeg < T.1 g.toNatClampNeg then ms o.toNatClampNeg - T.1 o.toNatClampNeg else T.1 g.toNatClampNeg
       if 0 < w then (w, (upd (upd T.1 g.toNatClampNeg (T.1 g.toNatClampNeg - w)) o.toNatClampNeg (T.1 o.toNatClampNeg + w), upd T.2.1 o.toNatClampNeg (if T.2.1 g.toNatClampNeg < T.2.1 o.toNatClampNeg then T.2.1 o.toNatClampNeg else T.2.1 g.toNatClampNeg), T.2.2)) else (-3, T))
  else (-1, T)) else (-1, T)
theorem tS_self (S : gx_S) (t : Nat) : S = tS S t (tG S t) := (tS_tG S t).symm
theorem pour_mem (S : gx_S) {t j : Nat} (ht : tb t) (w : Int32) : gx_u2 (gx_u2 S (t + 1) j (S (t + 1) j + w)) (t + 2) j 0 = tS S t (upd (S (t + 1)) j (S (t + 1) j + w), upd (S (t + 2)) j 0, S (t + 3), S t 4) := by
  have h1 : gx_u2 S (t + 1) j (S (t + 1) j + w) = tS S t (upd (S (t + 1)) j (S (t + 1) j + w), S (t + 2), S (t + 3), S t 4) := by
    conv => lhs; rw [tS_self S t]
    rw [tS_u1, tS_1]
    rfl
  rw [h1, tS_u2]
set_option maxRecDepth 10000 in
theorem c_pourInto (d : Nat) {t : Nat} (ht : tb t) (S : gx_S) {ng : Nat} (hng : S 11 0 = nI ng) (h5 : ng ≤ 5) (g n : Int32) (L : gx_L) : Cf (d + 1) mX9_pourInto [.ref t, .int g, .int n] S L (p_pour (S 11 0) (S 12) (tG S t) g n).1 (tS S t (p_pour (S 11 0) (S 12) (tG S t) g n).2) L := by
  refine ct_intro (loc := [some (.ref t), some (.int g), some (.int n), none]) (by decide) (Nat.le_of_ble_eq_true rfl) rfl ?_
  refine ev_ald0 dX9_pourInto_0 ?_
  refine ev_getr (r := 11) dX9_pourInto_1 fl_X9_21 (tp9_0 ht) ?_
  refine ev_ild1 dX9_pourInto_4 ?_
  refine ev_V1i (M' := mX2_hasGlass) dX9_pourInto_5 lk_X9_70 vX2_hasGlass rfl (c_hasGlass d hh11 _ _ _) (Nat.le_refl _) (Nat.le_of_ble_eq_true rfl) ?_
  refine ev_if_ne 13 dX9_pourInto_8 (by decide) (fun c_8 => ?_) (fun c_8 => ?_)
  · have b_8 := gx_b_y.mp c_8
    obtain ⟨j, hj, rfl, ej⟩ := isG_of (by omega) (hng ▸ b_8)
    refine ev_ild2 dX9_pourInto_13 ?_
    refine ev_iconst (v := 1) dX9_pourInto_14 (by decide) ?_
    refine ev_icmp_lt 24 dX9_pourInto_15 (by decide) (fun c_15 => ?_) (fun c_15 => ?_)
    · refine ev_bipush (v := (-2)) dX9_pourInto_24 (by decide) ?_
      refine ev_iret dX9_pourInto_26 ?_
      exact ⟨_, rfl, by simp only [p_pour, tG, if_pos b_8, if_pos c_15, ej, ite_self], by simp only [p_pour, tG, tS_id, if_pos b_8, if_pos c_15, ej, ite_self], rfl⟩
    · refine ev_ild2 dX9_pourInto_18 ?_
      refine ev_bipush (v := 9) dX9_pourInto_19 (by decide) ?_
      refine ev_icmp_le 27 dX9_pourInto_21 (by decide) (fun c_21 => ?_) (fun c_21 => ?_)
      · refine ev_ild2 dX9_pourInto_27 ?_
        refine ev_ald0 dX9_pourInto_28 ?_
        refine ev_ild1 dX9_pourInto_29 ?_
        refine ev_V1i (M' := mX9_roomIn) dX9_pourInto_30 lk_X9_74 vX9_roomIn (cl9 ht) (c_roomIn d ht (by omega) S L) (Nat.le_refl _) (Nat.le_of_ble_eq_true rfl) ?_
        refine ev_min dX9_pourInto_33 lk_X9_77 (Nat.le_add_left 1 _) (Nat.le_of_ble_eq_true rfl) ?_
        refine ev_ist3 dX9_pourInto_36 ?_
        refine ev_ild3 dX9_pourInto_37 ?_
        refine ev_if_gt 44 dX9_pourInto_38 (by decide) (fun c_38 => ?_) (fun c_38 => ?_)
        · refine ev_ald0 dX9_pourInto_44 ?_
          refine ev_getr (r := t + 1) dX9_pourInto_45 fl_X9_9 (tp9_1 ht) ?_
          refine ev_ild1 dX9_pourInto_48 ?_
          refine ev_dup2 dX9_pourInto_49 ?_
          refine ev_iald' dX9_pourInto_50 (ar9_1 ht) (by omega) (by decide) ?_
          refine ev_ild3 dX9_pourInto_51 ?_
          refine ev_iadd dX9_pourInto_52 ?_
          refine ev_iast' dX9_pourInto_53 (ar9_1 ht) (by omega) (by decide) ?_
          refine ev_ald0 dX9_pourInto_54 ?_
          refine ev_getr (r := t + 2) dX9_pourInto_55 fl_X9_15 (tp9_2 ht) ?_
          refine ev_ild1 dX9_pourInto_58 ?_
          refine ev_iconst (v := 0) dX9_pourInto_59 (by decide) ?_
          refine ev_iast' dX9_pourInto_60 (ar9_2 ht) (by omega) (by decide) ?_
          refine ev_ild3 dX9_pourInto_61 ?_
          refine ev_iret dX9_pourInto_62 ?_
          exact ⟨_, rfl, by simp only [p_pour, tG, if_pos b_8, if_neg c_15, if_pos c_21, if_pos c_38, ej, ite_self], by rw [pour_mem S ht]; simp only [p_pour, tG, tS_id, if_pos b_8, if_neg c_15, if_pos c_21, if_pos c_38, ej, ite_self], rfl⟩
        · refine ev_bipush (v := (-3)) dX9_pourInto_41 (by decide) ?_
          refine ev_iret dX9_pourInto_43 ?_
          exact ⟨_, rfl, by simp only [p_pour, tG, if_pos b_8, if_neg c_15, if_pos c_21, if_neg c_38, ej, ite_self], by simp only [p_pour, tG, tS_id, if_pos b_8, if_neg c_15, if_pos c_21, if_neg c_38, ej, ite_self], rfl⟩
      · refine ev_bipush (v := (-2)) dX9_pourInto_24 (by decide) ?_
        refine ev_iret dX9_pourInto_26 ?_
        exact ⟨_, rfl, by simp only [p_pour, tG, if_pos b_8, if_neg c_15, if_neg c_21, ej, ite_self], by simp only [p_pour, tG, tS_id, if_pos b_8, if_neg c_15, if_neg c_21, ej, ite_self], rfl⟩
  · have b_8 := gx_b_n.mp c_8
    refine ev_iconst (v := (-1)) dX9_pourInto_11 (by decide) ?_
    refine ev_iret dX9_pourInto_12 ?_
    exact ⟨_, rfl, by simp only [p_pour, tG, if_neg b_8, ite_self], by simp only [p_pour, tG, tS_id, if_neg b_8, ite_self], rfl⟩
def p_sits (ng nd : Int32) (sb : Nat → Int32) (d g : Int32) : Bool := if isG nd d = true then (if isG ng g = true then bt (sb d.toNatClampNeg) g.toNatClampNeg else false) else false
set_option maxRecDepth 10000 in
theorem c_sits (d : Nat) {h : Nat} (he : hh h) (S : gx_S) {ng : Nat} (hng : S h 0 = nI ng) (h5 : ng ≤ 5) {nd : Nat} (hnd : S h 1 = nI nd) (h4 : nd ≤ 4) (i g : Int32) (L : gx_L) : Cf (d + 1) mX2_sits [.ref h, .int i, .int g] S L (gx_b (p_sits (S h 0) (S h 1) (S (h + 6)) i g)) S L := by
  refine ct_intro (loc := [some (.ref h), some (.int i), some (.int g)]) (by decide) (Nat.le_of_ble_eq_true rfl) rfl ?_
  refine ev_ald0 dX2_sits_0 ?_
  refine ev_ild1 dX2_sits_1 ?_
  refine ev_V1i (M' := mX2_hasDrinker) dX2_sits_2 lk_X2_43 vX2_hasDrinker (cl2 he) (c_hasDrinker d he _ _ _) (Nat.le_refl _) (Nat.le_of_ble_eq_true rfl) ?_
  refine ev_if_eq 33 dX2_sits_5 (by decide) (fun c_5 => ?_) (fun c_5 => ?_)
  · have b_5 := gx_b_n.mp c_5
    refine ev_iconst (v := 0) dX2_sits_33 (by decide) ?_
    refine ev_zret dX2_sits_34 ?_ ?_
    · rfl
    · exact ⟨_, rfl, by simp only [p_sits, if_neg b_5, ite_self] <;> rfl, rfl, rfl⟩
  · have b_5 := gx_b_y.mp c_5
    obtain ⟨j, hj, rfl, ej⟩ := isG_of (by omega) (hnd ▸ b_5)
    refine ev_ald0 dX2_sits_8 ?_
    refine ev_ild2 dX2_sits_9 ?_
    refine ev_V1i (M' := mX2_hasGlass) dX2_sits_10 lk_X2_47 vX2_hasGlass (cl2 he) (c_hasGlass d he _ _ _) (Nat.le_refl _) (Nat.le_of_ble_eq_true rfl) ?_
    refine ev_if_eq 33 dX2_sits_13 (by decide) (fun c_13 => ?_) (fun c_13 => ?_)
    · have b_13 := gx_b_n.mp c_13
      refine ev_iconst (v := 0) dX2_sits_33 (by decide) ?_
      refine ev_zret dX2_sits_34 ?_ ?_
      · rfl
      · exact ⟨_, rfl, by simp only [p_sits, if_pos b_5, if_neg b_13, ej, ite_self] <;> rfl, rfl, rfl⟩
    · have b_13 := gx_b_y.mp c_13
      obtain ⟨k, hk, rfl, ek⟩ := isG_of (by omega) (hng ▸ b_13)
      refine ev_ald0 dX2_sits_16 ?_
      refine ev_getr (r := h + 6) dX2_sits_17 fl_X2_27 (tp2_7 he) ?_
      refine ev_ild1 dX2_sits_20 ?_
      refine ev_iald' dX2_sits_21 (ar2_6 he) (by omega) (by decide) ?_
      refine ev_ild2 dX2_sits_22 ?_
      refine ev_S2i (M' := mX10_hasBit) dX2_sits_23 lk_X2_50 sX10_hasBit (c_hasBit d _ _ _ _) (Nat.le_refl _) (Nat.le_of_ble_eq_true rfl) ?_
      refine ev_if_eq 33 dX2_sits_26 (by decide) (fun c_26 => ?_) (fun c_26 => ?_)
      · have b_26 := gx_b_n.mp c_26
        refine ev_iconst (v := 0) dX2_sits_33 (by decide) ?_
        refine ev_zret dX2_sits_34 ?_ ?_
        · rfl
        · exact ⟨_, rfl, by simp only [p_sits, if_pos b_5, if_pos b_13, ej, ek, ite_self] <;> simp only [gx_b, if_neg b_26, Bool.not_eq_true] , rfl, rfl⟩
      · have b_26 := gx_b_y.mp c_26
        refine ev_iconst (v := 1) dX2_sits_29 (by decide) ?_
        refine ev_goto 34 dX2_sits_30 (by decide) ?_
        refine ev_zret dX2_sits_34 ?_ ?_
        · rfl
        · exact ⟨_, rfl, by simp only [p_sits, if_pos b_5, if_pos b_13, ej, ek, ite_self] <;> simp only [gx_b, if_pos b_26, Bool.not_eq_true] , rfl, rfl⟩
end
section
theorem nI_div {a b : Nat} (ha : a < 2 ^ 31) (hb : b < 2 ^ 31) : nI a / nI b = nI (a / b) := by
  apply Int32.toInt_inj.mp
  have hab : a / b ≤ a := Nat.div_le_self a b
  have ht : (a : Int).tdiv (b : Int) = ((a / b : Nat) : Int) := (Int.ofNat_tdiv a b).symm
  rw [Int32.toInt_div, nI_toInt ha, nI_toInt hb, nI_toInt (by omega), ht]
  generalize a / b = q at hab
  exact Int.bmod_eq_of_le (by omega) (by omega)
theorem nI_mul (a b : Nat) : nI a * nI b = nI (a * b) := (Int32.ofNat_mul a b).symm
theorem nI_sub {a b : Nat} (h : b ≤ a) : nI a - nI b = nI (a - b) := by
  have h1 := nI_add (a - b) b
  rw [Nat.sub_add_cancel h] at h1
  rw [← h1, Int32.add_sub_cancel]
theorem nI_rem {a b : Nat} (ha : a < 2 ^ 31) (hb : b < 2 ^ 31) : nI a - nI a / nI b * nI b = nI (a % b) := by
  rw [nI_div ha hb, nI_mul, nI_sub (Nat.div_mul_le_self a b)]
  congr 1
  have := Nat.div_add_mod a b
  rw [Nat.mul_comm] at this
  omega
theorem bt_b (c : Bool) : (gx_b c = 0) = (c = false) := by cases c <;> simp [gx_b]
set_option maxRecDepth 10000 in
theorem c_drinkAt (d : Nat) {t : Nat} (ht : tb t) (S : gx_S) {ng : Nat} (hng : S 11 0 = nI ng) (h5 : ng ≤ 5) {nd : Nat} (hnd : S 11 1 = nI nd) (h4 : nd ≤ 4) (i g : Int32) (L : gx_L) : Cf (d + 2) mX9_drinkAt [.ref t, .int i, .int g] S L (p_drink (S 11 0) (S 11 1) (S 16) (S 17) (tG S t) i g).1 (tS S t (p_drink (S 11 0) (S 11 1) (S 16) (S 17) (tG S t) i g).2) L := by
  refine ct_intro (loc := [some (.ref t), some (.int i), some (.int g)]) (by decide) (Nat.le_of_ble_eq_true rfl) rfl ?_
  refine ev_ald0 dX9_drinkAt_0 ?_
  refine ev_getr (r := 11) dX9_drinkAt_1 fl_X9_21 (tp9_0 ht) ?_
  refine ev_ild1 dX9_drinkAt_4 ?_
  refine ev_V1i (M' := mX2_hasDrinker) dX9_drinkAt_5 lk_X9_80 vX2_hasDrinker rfl (c_hasDrinker (d + 1) hh11 _ _ _) (Nat.le_refl _) (Nat.le_of_ble_eq_true rfl) ?_
  refine ev_if_eq 22 dX9_drinkAt_8 (by decide) (fun c_8 => ?_) (fun c_8 => ?_)
  · have b_8 := gx_b_n.mp c_8
    refine ev_iconst (v := (-1)) dX9_drinkAt_22 (by decide) ?_
    refine ev_iret dX9_drinkAt_23 ?_
    exact ⟨_, rfl, by simp only [p_drink, if_neg b_8, ite_self], by simp only [p_drink, tS_tG, if_neg b_8, ite_self], rfl⟩
  · have b_8 := gx_b_y.mp c_8
    have b8 := b_8
    obtain ⟨j, hj, rfl, ej⟩ := isG_of (by omega) (hnd ▸ b_8)
    refine ev_ald0 dX9_drinkAt_11 ?_
    refine ev_getr (r := 11) dX9_drinkAt_12 fl_X9_21 (tp9_0 ht) ?_
    refine ev_ild2 dX9_drinkAt_15 ?_
    refine ev_V1i (M' := mX2_hasGlass) dX9_drinkAt_16 lk_X9_70 vX2_hasGlass rfl (c_hasGlass (d + 1) hh11 _ _ _) (Nat.le_refl _) (Nat.le_of_ble_eq_true rfl) ?_
    refine ev_if_ne 24 dX9_drinkAt_19 (by decide) (fun c_19 => ?_) (fun c_19 => ?_)
    · have b_19 := gx_b_y.mp c_19
      have b19 := b_19
      obtain ⟨k, hk, rfl, ek⟩ := isG_of (by omega) (hng ▸ b_19)
      refine ev_ald0 dX9_drinkAt_24 ?_
      refine ev_getr (r := 11) dX9_drinkAt_25 fl_X9_21 (tp9_0 ht) ?_
      refine ev_ild1 dX9_drinkAt_28 ?_
      refine ev_ild2 dX9_drinkAt_29 ?_
      refine ev_V2i (M' := mX2_sits) dX9_drinkAt_30 lk_X9_59 vX2_sits rfl (c_sits d hh11 S hng h5 hnd h4 _ _ L) (Nat.le_refl _) (Nat.le_of_ble_eq_true rfl) ?_
      refine ev_if_eq 45 dX9_drinkAt_33 (by decide) (fun c_33 => ?_) (fun c_33 => ?_)
      · have b_33 := gx_b_n.mp c_33
        simp only [p_sits, ej, ek, if_pos b_8, if_pos b_19] at b_33
        refine ev_bipush (v := (-3)) dX9_drinkAt_45 (by decide) ?_
        refine ev_iret dX9_drinkAt_47 ?_
        exact ⟨_, rfl, by simp only [p_drink, if_pos b_8, if_pos b_19, if_neg b_33, ej, ek, ite_self], by simp only [p_drink, tS_tG, if_pos b_8, if_pos b_19, if_neg b_33, ej, ek, ite_self], rfl⟩
      · have b_33 := gx_b_y.mp c_33
        simp only [p_sits, ej, ek, if_pos b_8, if_pos b_19] at b_33
        refine ev_ald0 dX9_drinkAt_36 ?_
        refine ev_ild1 dX9_drinkAt_37 ?_
        refine ev_ild2 dX9_drinkAt_38 ?_
        refine ev_V2i (M' := mX9_swallow) dX9_drinkAt_39 lk_X9_83 vX9_swallow (cl9 ht) (c_swallow (d) ht (by omega) (by omega) S L) (Nat.le_refl _) (Nat.le_of_ble_eq_true rfl) ?_
        refine ev_goto 47 dX9_drinkAt_42 (by decide) ?_
        refine ev_iret dX9_drinkAt_47 ?_
        exact ⟨_, rfl, by simp only [p_drink, if_pos b_8, if_pos b_19, if_pos b_33, ej, ek, ite_self], by simp only [p_drink, tS_tG, if_pos b_8, if_pos b_19, if_pos b_33, ej, ek, ite_self], rfl⟩
    · have b_19 := gx_b_n.mp c_19
      refine ev_iconst (v := (-1)) dX9_drinkAt_22 (by decide) ?_
      refine ev_iret dX9_drinkAt_23 ?_
      exact ⟨_, rfl, by simp only [p_drink, if_pos b_8, if_neg b_19, ej, ite_self], by simp only [p_drink, tS_tG, if_pos b_8, if_neg b_19, ej, ite_self], rfl⟩
theorem tip_mem (S : gx_S) {t j k : Nat} (ht : tb t) (hjk : ¬ nI j = nI k) (w : Int32) : gx_u2 (gx_u2 (gx_u2 S (t + 1) j (S (t + 1) j - w)) (t + 1) k (gx_u2 S (t + 1) j (S (t + 1) j - w) (t + 1) k + w)) (t + 2) k (if gx_u2 (gx_u2 S (t + 1) j (S (t + 1) j - w)) (t + 1) k (gx_u2 S (t + 1) j (S (t + 1) j - w) (t + 1) k + w) (t + 2) j < gx_u2 (gx_u2 S (t + 1) j (S (t + 1) j - w)) (t + 1) k (gx_u2 S (t + 1) j (S (t + 1) j - w) (t + 1) k + w) (t + 2) k then gx_u2 (gx_u2 S (t + 1) j (S (t + 1) j - w)) (t + 1) k (gx_u2 S (t + 1) j (S (t + 1) j - w) (t + 1) k + w) (t + 2) k else gx_u2 (gx_u2 S (t + 1) j (S (t + 1) j - w)) (t + 1) k (gx_u2 S (t + 1) j (S (t + 1) j - w) (t + 1) k + w) (t + 2) j) = tS S t (upd (upd (S (t + 1)) j (S (t + 1) j - w)) k (S (t + 1) k + w), upd (S (t + 2)) k (if S (t + 2) j < S (t + 2) k then S (t + 2) k else S (t + 2) j), S (t + 3), S t 4) := by
  have hne : k ≠ j := fun h => hjk (by rw [h])
  rw [u2_k S (t + 1) _ hne]
  have h1 : gx_u2 S (t + 1) j (S (t + 1) j - w) = tS S t (upd (S (t + 1)) j (S (t + 1) j - w), S (t + 2), S (t + 3), S t 4) := by
    conv => lhs; rw [tS_self S t]
    rw [tS_u1, tS_1]
    rfl
  rw [h1, tS_u1, tS_2, tS_u2]
set_option maxRecDepth 10000 in
theorem c_tipOver (d : Nat) {t : Nat} (ht : tb t) (S : gx_S) {ng : Nat} (hng : S 11 0 = nI ng) (h5 : ng ≤ 5) (g q : Int32) (L : gx_L) : Cf (d + 1) mX9_tipOver [.ref t, .int g, .int q] S L (p_tip (S 11 0) (S 12) (tG S t) g q).1 (tS S t (p_tip (S 11 0) (S 12) (tG S t) g q).2) L := by
  refine ct_intro (loc := [some (.ref t), some (.int g), some (.int q), none]) (by decide) (Nat.le_of_ble_eq_true rfl) rfl ?_
  refine ev_ald0 dX9_tipOver_0 ?_
  refine ev_getr (r := 11) dX9_tipOver_1 fl_X9_21 (tp9_0 ht) ?_
  refine ev_ild1 dX9_tipOver_4 ?_
  refine ev_V1i (M' := mX2_hasGlass) dX9_tipOver_5 lk_X9_70 vX2_hasGlass rfl (c_hasGlass d hh11 _ _ _) (Nat.le_refl _) (Nat.le_of_ble_eq_true rfl) ?_
  refine ev_if_eq 22 dX9_tipOver_8 (by decide) (fun c_8 => ?_) (fun c_8 => ?_)
  · have b_8 := gx_b_n.mp c_8
    refine ev_iconst (v := (-1)) dX9_tipOver_22 (by decide) ?_
    refine ev_iret dX9_tipOver_23 ?_
    exact ⟨_, rfl, by simp only [p_tip, tG, if_neg b_8, ite_self], by simp only [p_tip, tG, tS_id, if_neg b_8, ite_self], rfl⟩
  · have b_8 := gx_b_y.mp c_8
    obtain ⟨j, hj, rfl, ej⟩ := isG_of (by omega) (hng ▸ b_8)
    refine ev_ald0 dX9_tipOver_11 ?_
    refine ev_getr (r := 11) dX9_tipOver_12 fl_X9_21 (tp9_0 ht) ?_
    refine ev_ild2 dX9_tipOver_15 ?_
    refine ev_V1i (M' := mX2_hasGlass) dX9_tipOver_16 lk_X9_70 vX2_hasGlass rfl (c_hasGlass d hh11 _ _ _) (Nat.le_refl _) (Nat.le_of_ble_eq_true rfl) ?_
    refine ev_if_ne 24 dX9_tipOver_19 (by decide) (fun c_19 => ?_) (fun c_19 => ?_)
    · have b_19 := gx_b_y.mp c_19
      obtain ⟨k, hk, rfl, ek⟩ := isG_of (by omega) (hng ▸ b_19)
      refine ev_ild1 dX9_tipOver_24 ?_
      refine ev_ild2 dX9_tipOver_25 ?_
      refine ev_icmp_ne 32 dX9_tipOver_26 (by decide) (fun c_26 => ?_) (fun c_26 => ?_)
      · refine ev_ald0 dX9_tipOver_32 ?_
        refine ev_getr (r := t + 1) dX9_tipOver_33 fl_X9_9 (tp9_1 ht) ?_
        refine ev_ild1 dX9_tipOver_36 ?_
        refine ev_iald' dX9_tipOver_37 (ar9_1 ht) (by omega) (by decide) ?_
        refine ev_ald0 dX9_tipOver_38 ?_
        refine ev_ild2 dX9_tipOver_39 ?_
        refine ev_V1i (M' := mX9_roomIn) dX9_tipOver_40 lk_X9_74 vX9_roomIn (cl9 ht) (c_roomIn d ht (by omega) S L) (Nat.le_refl _) (Nat.le_of_ble_eq_true rfl) ?_
        refine ev_min dX9_tipOver_43 lk_X9_77 (Nat.le_add_left 1 _) (Nat.le_of_ble_eq_true rfl) ?_
        refine ev_ist3 dX9_tipOver_46 ?_
        refine ev_ild3 dX9_tipOver_47 ?_
        refine ev_if_gt 54 dX9_tipOver_48 (by decide) (fun c_48 => ?_) (fun c_48 => ?_)
        · refine ev_ald0 dX9_tipOver_54 ?_
          refine ev_getr (r := t + 1) dX9_tipOver_55 fl_X9_9 (tp9_1 ht) ?_
          refine ev_ild1 dX9_tipOver_58 ?_
          refine ev_dup2 dX9_tipOver_59 ?_
          refine ev_iald' dX9_tipOver_60 (ar9_1 ht) (by omega) (by decide) ?_
          refine ev_ild3 dX9_tipOver_61 ?_
          refine ev_isub dX9_tipOver_62 ?_
          refine ev_iast' dX9_tipOver_63 (ar9_1 ht) (by omega) (by decide) ?_
          refine ev_ald0 dX9_tipOver_64 ?_
          refine ev_getr (r := t + 1) dX9_tipOver_65 fl_X9_9 (tp9_1 ht) ?_
          refine ev_ild2 dX9_tipOver_68 ?_
          refine ev_dup2 dX9_tipOver_69 ?_
          refine ev_iald' dX9_tipOver_70 (ar9_1 ht) (by omega) (by decide) ?_
          refine ev_ild3 dX9_tipOver_71 ?_
          refine ev_iadd dX9_tipOver_72 ?_
          refine ev_iast' dX9_tipOver_73 (ar9_1 ht) (by omega) (by decide) ?_
          refine ev_ald0 dX9_tipOver_74 ?_
          refine ev_getr (r := t + 2) dX9_tipOver_75 fl_X9_15 (tp9_2 ht) ?_
          refine ev_ild2 dX9_tipOver_78 ?_
          refine ev_ald0 dX9_tipOver_79 ?_
          refine ev_getr (r := t + 2) dX9_tipOver_80 fl_X9_15 (tp9_2 ht) ?_
          refine ev_ild1 dX9_tipOver_83 ?_
          refine ev_iald' dX9_tipOver_84 (ar9_2 ht) (by omega) (by decide) ?_
          refine ev_ald0 dX9_tipOver_85 ?_
          refine ev_getr (r := t + 2) dX9_tipOver_86 fl_X9_15 (tp9_2 ht) ?_
          refine ev_ild2 dX9_tipOver_89 ?_
          refine ev_iald' dX9_tipOver_90 (ar9_2 ht) (by omega) (by decide) ?_
          refine ev_max dX9_tipOver_91 lk_X9_46 (Nat.le_add_left 1 _) (Nat.le_of_ble_eq_true rfl) ?_
          refine ev_iast' dX9_tipOver_94 (ar9_2 ht) (by omega) (by decide) ?_
          refine ev_ild3 dX9_tipOver_95 ?_
          refine ev_iret dX9_tipOver_96 ?_
          exact ⟨_, rfl, by simp only [p_tip, tG, if_pos b_8, if_pos b_19, if_neg c_26, if_pos c_48, ej, ek, ite_self], by rw [tip_mem S ht c_26]; simp only [p_tip, tG, tS_id, if_pos b_8, if_pos b_19, if_neg c_26, if_pos c_48, ej, ek, ite_self], rfl⟩
        · refine ev_bipush (v := (-3)) dX9_tipOver_51 (by decide) ?_
          refine ev_iret dX9_tipOver_53 ?_
          exact ⟨_, rfl, by simp only [p_tip, tG, if_pos b_8, if_pos b_19, if_neg c_26, if_neg c_48, ej, ek, ite_self], by simp only [p_tip, tG, tS_id, if_pos b_8, if_pos b_19, if_neg c_26, if_neg c_48, ej, ek, ite_self], rfl⟩
      · refine ev_bipush (v := (-2)) dX9_tipOver_29 (by decide) ?_
        refine ev_iret dX9_tipOver_31 ?_
        exact ⟨_, rfl, by simp only [p_tip, tG, if_pos b_8, if_pos b_19, if_pos c_26, ej, ek, ite_self], by simp only [p_tip, tG, tS_id, if_pos b_8, if_pos b_19, if_pos c_26, ej, ek, ite_self], rfl⟩
    · have b_19 := gx_b_n.mp c_19
      refine ev_iconst (v := (-1)) dX9_tipOver_22 (by decide) ?_
      refine ev_iret dX9_tipOver_23 ?_
      exact ⟨_, rfl, by simp only [p_tip, tG, if_pos b_8, if_neg b_19, ej, ite_self], by simp only [p_tip, tG, tS_id, if_pos b_8, if_neg b_19, ej, ite_self], rfl⟩
def p_age (a : Int32) : Int32 := if a + 1 < 9 then a + 1 else 9
def p_ageT (gk : Nat → Int32) (T : Tb) (g : Nat) : Tb := if gk g = 1 then (upd T.1 g (T.1 g - 1), upd T.2.1 g (p_age (T.2.1 g)), T.2.2) else if gk g = 2 then (if p_age (T.2.1 g) = 1 then (upd T.1 g (T.1 g - T.1 g / 4), upd T.2.1 g (p_age (T.2.1 g)), T.2.2) else (T.1, upd T.2.1 g (p_age (T.2.1 g)), T.2.2)) else (T.1, upd T.2.1 g (p_age (T.2.1 g)), T.2.2)
theorem age_rd (S : gx_S) (t g : Nat) (x : Int32) : tS S t (S (t + 1), upd (S (t + 2)) g x, S (t + 3), S t 4) (t + 2) g = x := by
  rw [tS_2]
  exact upd_at _ _ _
theorem age_m (S : gx_S) {t g : Nat} (x : Int32) : gx_u2 S (t + 2) g x = tS S t (S (t + 1), upd (S (t + 2)) g x, S (t + 3), S t 4) := by
  conv => lhs; rw [tS_self S t]
  rw [tS_u2]
  rfl
set_option maxRecDepth 10000 in
theorem c_ageByHour (d : Nat) {t g : Nat} (ht : tb t) (hg : g < 5) (S : gx_S) (L : gx_L) : Cw (d + 1) mX9_ageByHour [.ref t, .int (nI g)] S L (tS S t (p_ageT (S 14) (tG S t) g)) L := by
  refine ct_intro (loc := [some (.ref t), some (.int (nI g))]) (by decide) (Nat.le_of_ble_eq_true rfl) rfl ?_
  have n14 := (p_aroundN_S (S := S) (dr := 0) ht (S (t + 1), upd (S (t + 2)) g (p_age (S (t + 2) g)), S (t + 3), S t 4)).2.2.2.1
  refine ev_ald0 dX9_ageByHour_0 ?_
  refine ev_getr (r := t + 2) dX9_ageByHour_1 fl_X9_15 (tp9_2 ht) ?_
  refine ev_ild1 dX9_ageByHour_4 ?_
  refine ev_bipush (v := 9) dX9_ageByHour_5 (by decide) ?_
  refine ev_ald0 dX9_ageByHour_7 ?_
  refine ev_getr (r := t + 2) dX9_ageByHour_8 fl_X9_15 (tp9_2 ht) ?_
  refine ev_ild1 dX9_ageByHour_11 ?_
  refine ev_iald' dX9_ageByHour_12 (ar9_2 ht) (by omega) (by decide) ?_
  refine ev_iconst (v := 1) dX9_ageByHour_13 (by decide) ?_
  refine ev_iadd dX9_ageByHour_14 ?_
  refine ev_min dX9_ageByHour_15 lk_X9_77 (Nat.le_add_left 1 _) (Nat.le_of_ble_eq_true rfl) ?_
  refine ev_iast' dX9_ageByHour_18 (ar9_2 ht) (by omega) (by decide) ?_
  refine ev_mem (age_m S (p_age (S (t + 2) g))) ?_
  refine ev_ald0 dX9_ageByHour_19 ?_
  refine ev_getr (r := 11) dX9_ageByHour_20 fl_X9_21 (tp9_0 ht) ?_
  refine ev_getr (r := 14) dX9_ageByHour_23 fl_X9_43 rfl ?_
  refine ev_ild1 dX9_ageByHour_26 ?_
  refine ev_iald' dX9_ageByHour_27 rfl (by omega) (by decide) ?_
  rw [n14]
  refine ev_iconst (v := 1) dX9_ageByHour_28 (by decide) ?_
  refine ev_icmp_ne 45 dX9_ageByHour_29 (by decide) (fun c_29 => ?_) (fun c_29 => ?_)
  · refine ev_ald0 dX9_ageByHour_45 ?_
    refine ev_getr (r := 11) dX9_ageByHour_46 fl_X9_21 (tp9_0 ht) ?_
    refine ev_getr (r := 14) dX9_ageByHour_49 fl_X9_43 rfl ?_
    refine ev_ild1 dX9_ageByHour_52 ?_
    refine ev_iald' dX9_ageByHour_53 rfl (by omega) (by decide) ?_
    rw [n14]
    refine ev_iconst (v := 2) dX9_ageByHour_54 (by decide) ?_
    refine ev_icmp_ne 85 dX9_ageByHour_55 (by decide) (fun c_55 => ?_) (fun c_55 => ?_)
    · refine ev_vret dX9_ageByHour_85 ?_
      exact ⟨rfl, by simp only [p_ageT, tG]; simp only [if_neg c_29, if_neg c_55, ite_self], rfl⟩
    · refine ev_ald0 dX9_ageByHour_58 ?_
      refine ev_getr (r := t + 2) dX9_ageByHour_59 fl_X9_15 (tp9_2 ht) ?_
      refine ev_ild1 dX9_ageByHour_62 ?_
      refine ev_iald' dX9_ageByHour_63 (ar9_2 ht) (by omega) (by decide) ?_
      rw [age_rd]
      refine ev_iconst (v := 1) dX9_ageByHour_64 (by decide) ?_
      refine ev_icmp_ne 85 dX9_ageByHour_65 (by decide) (fun c_65 => ?_) (fun c_65 => ?_)
      · refine ev_vret dX9_ageByHour_85 ?_
        exact ⟨rfl, by simp only [p_ageT, tG]; simp only [if_neg c_29, if_pos c_55, if_neg c_65, ite_self], rfl⟩
      · refine ev_ald0 dX9_ageByHour_68 ?_
        refine ev_getr (r := t + 1) dX9_ageByHour_69 fl_X9_9 (tp9_1 ht) ?_
        refine ev_ild1 dX9_ageByHour_72 ?_
        refine ev_dup2 dX9_ageByHour_73 ?_
        refine ev_iald' dX9_ageByHour_74 (ar9_1 ht) (by omega) (by decide) ?_
        rw [tS_1]
        refine ev_ald0 dX9_ageByHour_75 ?_
        refine ev_getr (r := t + 1) dX9_ageByHour_76 fl_X9_9 (tp9_1 ht) ?_
        refine ev_ild1 dX9_ageByHour_79 ?_
        refine ev_iald' dX9_ageByHour_80 (ar9_1 ht) (by omega) (by decide) ?_
        rw [tS_1]
        refine ev_iconst (v := 4) dX9_ageByHour_81 (by decide) ?_
        refine ev_idiv dX9_ageByHour_82 (by decide) ?_
        refine ev_isub dX9_ageByHour_83 ?_
        refine ev_iast' dX9_ageByHour_84 (ar9_1 ht) (by omega) (by decide) ?_
        rw [tS_u1]
        refine ev_vret dX9_ageByHour_85 ?_
        exact ⟨rfl, by simp only [p_ageT, tG]; simp only [if_neg c_29, if_pos c_55, if_pos c_65, ite_self], rfl⟩
  · refine ev_ald0 dX9_ageByHour_32 ?_
    refine ev_getr (r := t + 1) dX9_ageByHour_33 fl_X9_9 (tp9_1 ht) ?_
    refine ev_ild1 dX9_ageByHour_36 ?_
    refine ev_dup2 dX9_ageByHour_37 ?_
    refine ev_iald' dX9_ageByHour_38 (ar9_1 ht) (by omega) (by decide) ?_
    rw [tS_1]
    refine ev_iconst (v := 1) dX9_ageByHour_39 (by decide) ?_
    refine ev_isub dX9_ageByHour_40 ?_
    refine ev_iast' dX9_ageByHour_41 (ar9_1 ht) (by omega) (by decide) ?_
    rw [tS_u1]
    refine ev_goto 85 dX9_ageByHour_42 (by decide) ?_
    refine ev_vret dX9_ageByHour_85 ?_
    exact ⟨rfl, by simp only [p_ageT, tG]; simp only [if_pos c_29, ite_self], rfl⟩
def p_hourN (gk : Nat → Int32) (T : Tb) : Nat → Tb
  | 0 => T
  | n + 1 => if (p_hourN gk T n).1 n ≤ 0 then p_hourN gk T n else p_ageT gk (p_hourN gk T n) n
def p_hourT (gk : Nat → Int32) (T : Tb) : Tb := ((p_hourN gk T 5).1, (p_hourN gk T 5).2.1, (p_hourN gk T 5).2.2.1, (p_hourN gk T 5).2.2.2 + 1)
theorem c_ageByHourT (d : Nat) {t g : Nat} (ht : tb t) (hg : g < 5) (S : gx_S) (T : Tb) (L : gx_L) : Cw (d + 1) mX9_ageByHour [.ref t, .int (nI g)] (tS S t T) L (tS S t (p_ageT (S 14) T g)) L := by
  have h := c_ageByHour d ht hg (tS S t T) L
  rw [tG_tS, tS_tS, (p_aroundN_S (dr := 0) ht T).2.2.2.1] at h
  exact h
theorem c_taxesT (d : Nat) {t : Nat} (ht : tb t) (S : gx_S) (T : Tb) (L : gx_L) : Cf (d + 2) mX9_taxes [.ref t] (tS S t T) L (p_taxes (S 14) (S 12) T) (tS S t T) L := by
  have h := c_taxes d ht (tS S t T) L
  rw [tG_tS, (p_aroundN_S (dr := 0) ht T).2.2.2.1, (p_aroundN_S (dr := 0) ht T).2.2.1] at h
  exact h
set_option maxRecDepth 10000 in
theorem l_hour (d : Nat) {t : Nat} (ht : tb t) (S : gx_S) (L : gx_L) {Q : Option Value → gx_S → gx_L → Prop}  (kk : Ev mX9_passHour (d + 3) 27 [some (.ref t), some (.int (nI (5)))] [] (tS S t (p_hourN (S 14) (tG S t) (5))) L Q) : ∀ (n i : Nat), i + n = 5 → Ev mX9_passHour (d + 3) 2 [some (.ref t), some (.int (nI (i)))] [] (tS S t (p_hourN (S 14) (tG S t) (i))) L Q := by
  intro n
  induction n with
  | zero =>
    intro i hi
    obtain rfl : i = 5 := hi
    refine ev_ild1 dX9_passHour_2 ?_
    refine ev_iconst (v := 5) dX9_passHour_3 (by decide) ?_
    refine ev_icmp_ge_t 27 dX9_passHour_4 (by decide) (by decide) ?_
    exact kk
  | succ n ih =>
    intro i hi
    refine ev_ild1 dX9_passHour_2 ?_
    refine ev_iconst (v := 5) dX9_passHour_3 (by decide) ?_
    refine ev_icmp_ge_f 27 dX9_passHour_4 (by decide) (nI_ge (b := 5) (by omega) (by decide)) ?_
    refine ev_ald0 dX9_passHour_7 ?_
    refine ev_getr (r := t + 1) dX9_passHour_8 fl_X9_9 (tp9_1 ht) ?_
    refine ev_ild1 dX9_passHour_11 ?_
    refine ev_iald' dX9_passHour_12 (ar9_1 ht) (by omega) (by decide) ?_
    rw [tS_1]
    refine ev_if_le 21 dX9_passHour_13 (by decide) (fun c_13 => ?_) (fun c_13 => ?_)
    · refine ev_inc1 dX9_passHour_21 (nI_inc _) ?_
      refine ev_goto 2 dX9_passHour_24 (by decide) ?_
      have e := ih (i + 1) (by omega)
      simp only [p_hourN, if_pos c_13, ite_self] at e
      exact e
    · refine ev_ald0 dX9_passHour_16 ?_
      refine ev_ild1 dX9_passHour_17 ?_
      refine ev_V1v (M' := mX9_ageByHour) dX9_passHour_18 lk_X9_86 vX9_ageByHour (cl9 ht) (c_ageByHourT (d + 1) ht (by omega) S _ L) (Nat.le_refl _) (Nat.le_of_ble_eq_true rfl) ?_
      refine ev_inc1 dX9_passHour_21 (nI_inc _) ?_
      refine ev_goto 2 dX9_passHour_24 (by decide) ?_
      have e := ih (i + 1) (by omega)
      simp only [p_hourN, if_neg c_13, ite_self] at e
      exact e
set_option maxRecDepth 10000 in
theorem c_passHour (d : Nat) {t : Nat} (ht : tb t) (S : gx_S) (L : gx_L) : Cf (d + 3) mX9_passHour [.ref t] S L (p_taxes (S 14) (S 12) (p_hourT (S 14) (tG S t))) (tS S t (p_hourT (S 14) (tG S t))) L := by
  refine ct_intro (loc := [some (.ref t), none]) (by decide) (Nat.le_of_ble_eq_true rfl) rfl ?_
  refine ev_iconst (v := 0) dX9_passHour_0 (by decide) ?_
  refine ev_ist1 dX9_passHour_1 ?_
  refine ev_mem (tS_tG S t).symm ?_
  refine l_hour d ht S L ?_ 5 0 rfl
  refine ev_ald0 dX9_passHour_27 ?_
  refine ev_dupr dX9_passHour_28 ?_
  refine ev_geti dX9_passHour_29 fl_X9_31 (tp9_4 ht) ?_
  rw [tS_4]
  refine ev_iconst (v := 1) dX9_passHour_32 (by decide) ?_
  refine ev_iadd dX9_passHour_33 ?_
  refine ev_puti dX9_passHour_34 fp_X9_31 (tp9_4 ht) ?_
  rw [tS_u4]
  refine ev_ald0 dX9_passHour_37 ?_
  refine ev_V0i (M' := mX9_taxes) dX9_passHour_38 lk_X9_90 vX9_taxes (cl9 ht) (c_taxesT d ht S _ L) (Nat.le_refl _) (Nat.le_of_ble_eq_true rfl) ?_
  refine ev_iret dX9_passHour_41 ?_
  exact ⟨_, rfl, rfl, rfl, rfl⟩
def allB (p : Nat → Bool) : Nat → Bool
  | 0 => true
  | n + 1 => allB p n && p n
theorem allB_t {p : Nat → Bool} : ∀ {n : Nat}, (∀ i, i < n → p i = true) → allB p n = true
  | 0, _ => rfl
  | n + 1, h => by
    unfold allB
    rw [allB_t (fun i hi => h i (by omega)), h n (by omega)]
    rfl
theorem allB_f {p : Nat → Bool} {i : Nat} (hp : p i = false) : ∀ {n : Nat}, i < n → allB p n = false
  | 0, h => absurd h (by omega)
  | n + 1, h => by
    unfold allB
    rcases Nat.lt_or_ge i n with h1 | h1
    · rw [allB_f hp h1]
      rfl
    · have : i = n := by omega
      subst this
      rw [hp, Bool.and_false]
def p_quN (dk th : Nat → Int32) (i : Nat) : Bool := if th i ≤ 0 then true else if dk i = 3 then true else false
set_option maxRecDepth 10000 in
theorem l_quench (d : Nat) {t : Nat} (ht : tb t) (S : gx_S) (L : gx_L) {Q : Option Value → gx_S → gx_L → Prop} (kf : ∀ i, i < 4 → p_quN (S 16) (S (t + 3)) i = false → Q (some (.int 0)) S L) (kk : Ev mX9_isQuenched (d) 37 [some (.ref t), some (.int (nI (4)))] [] (S) L Q) : ∀ (n i : Nat), i + n = 4 → Ev mX9_isQuenched (d) 2 [some (.ref t), some (.int (nI (i)))] [] (S) L Q := by
  intro n
  induction n with
  | zero =>
    intro i hi
    obtain rfl : i = 4 := hi
    refine ev_ild1 dX9_isQuenched_2 ?_
    refine ev_iconst (v := 4) dX9_isQuenched_3 (by decide) ?_
    refine ev_icmp_ge_t 37 dX9_isQuenched_4 (by decide) (by decide) ?_
    exact kk
  | succ n ih =>
    intro i hi
    refine ev_ild1 dX9_isQuenched_2 ?_
    refine ev_iconst (v := 4) dX9_isQuenched_3 (by decide) ?_
    refine ev_icmp_ge_f 37 dX9_isQuenched_4 (by decide) (nI_ge (b := 4) (by omega) (by decide)) ?_
    refine ev_ald0 dX9_isQuenched_7 ?_
    refine ev_getr (r := t + 3) dX9_isQuenched_8 fl_X9_18 (tp9_3 ht) ?_
    refine ev_ild1 dX9_isQuenched_11 ?_
    refine ev_iald' dX9_isQuenched_12 (ar9_3 ht) (by omega) (by decide) ?_
    refine ev_if_le 31 dX9_isQuenched_13 (by decide) (fun c_13 => ?_) (fun c_13 => ?_)
    · refine ev_inc1 dX9_isQuenched_31 (nI_inc _) ?_
      refine ev_goto 2 dX9_isQuenched_34 (by decide) ?_
      exact ih (i + 1) (by omega)
    · refine ev_ald0 dX9_isQuenched_16 ?_
      refine ev_getr (r := 11) dX9_isQuenched_17 fl_X9_21 (tp9_0 ht) ?_
      refine ev_getr (r := 16) dX9_isQuenched_20 fl_X9_63 rfl ?_
      refine ev_ild1 dX9_isQuenched_23 ?_
      refine ev_iald' dX9_isQuenched_24 rfl (by omega) (by decide) ?_
      refine ev_iconst (v := 3) dX9_isQuenched_25 (by decide) ?_
      refine ev_icmp_eq 31 dX9_isQuenched_26 (by decide) (fun c_26 => ?_) (fun c_26 => ?_)
      · refine ev_inc1 dX9_isQuenched_31 (nI_inc _) ?_
        refine ev_goto 2 dX9_isQuenched_34 (by decide) ?_
        exact ih (i + 1) (by omega)
      · refine ev_iconst (v := 0) dX9_isQuenched_29 (by decide) ?_
        refine ev_zret dX9_isQuenched_30 ?_ ?_
        · rfl
        · exact kf i (by omega) (by simp only [p_quN, if_neg c_13, if_neg c_26, ite_self])
set_option maxRecDepth 10000 in
theorem c_isQuenched (d : Nat) {t : Nat} (ht : tb t) (S : gx_S) (L : gx_L) : Cf d mX9_isQuenched [.ref t] S L (gx_b (allB (p_quN (S 16) (S (t + 3))) 4)) S L := by
  refine ct_intro (loc := [some (.ref t), none]) (by decide) (Nat.le_of_ble_eq_true rfl) rfl ?_
  refine ev_iconst (v := 0) dX9_isQuenched_0 (by decide) ?_
  refine ev_ist1 dX9_isQuenched_1 ?_
  have loop : ∀ (n i : Nat), i + n = 4 → (∀ k, k < i → p_quN (S 16) (S (t + 3)) k = true) → Ev mX9_isQuenched d 2 [some (.ref t), some (.int (nI i))] [] S L (fun v S' L' => ∃ r : Int32, v = some (.int r) ∧ r = gx_b (allB (p_quN (S 16) (S (t + 3))) 4) ∧ S' = S ∧ L' = L) := by
    intro n
    induction n with
    | zero =>
      intro i hi hall
      obtain rfl : i = 4 := hi
      refine ev_ild1 dX9_isQuenched_2 ?_
      refine ev_iconst (v := 4) dX9_isQuenched_3 (by decide) ?_
      refine ev_icmp_ge_t 37 dX9_isQuenched_4 (by decide) (by decide) ?_
      refine ev_iconst (v := 1) dX9_isQuenched_37 (by decide) ?_
      refine ev_zret dX9_isQuenched_38 ?_ ?_
      · rfl
      · exact ⟨_, rfl, by rw [allB_t hall]; rfl, rfl, rfl⟩
    | succ n ih =>
      intro i hi hall
      refine ev_ild1 dX9_isQuenched_2 ?_
      refine ev_iconst (v := 4) dX9_isQuenched_3 (by decide) ?_
      refine ev_icmp_ge_f 37 dX9_isQuenched_4 (by decide) (nI_ge (b := 4) (by omega) (by decide)) ?_
      refine ev_ald0 dX9_isQuenched_7 ?_
      refine ev_getr (r := t + 3) dX9_isQuenched_8 fl_X9_18 (tp9_3 ht) ?_
      refine ev_ild1 dX9_isQuenched_11 ?_
      refine ev_iald' dX9_isQuenched_12 (ar9_3 ht) (by omega) (by decide) ?_
      refine ev_if_le 31 dX9_isQuenched_13 (by decide) (fun c_13 => ?_) (fun c_13 => ?_)
      · refine ev_inc1 dX9_isQuenched_31 (nI_inc _) ?_
        refine ev_goto 2 dX9_isQuenched_34 (by decide) ?_
        exact ih (i + 1) (by omega) (fun k hk => by
          rcases Nat.lt_or_ge k i with h9 | h9
          · exact hall k h9
          · obtain rfl : k = i := by omega
            simp only [p_quN, if_pos c_13, ite_self])
      · refine ev_ald0 dX9_isQuenched_16 ?_
        refine ev_getr (r := 11) dX9_isQuenched_17 fl_X9_21 (tp9_0 ht) ?_
        refine ev_getr (r := 16) dX9_isQuenched_20 fl_X9_63 rfl ?_
        refine ev_ild1 dX9_isQuenched_23 ?_
        refine ev_iald' dX9_isQuenched_24 rfl (by omega) (by decide) ?_
        refine ev_iconst (v := 3) dX9_isQuenched_25 (by decide) ?_
        refine ev_icmp_eq 31 dX9_isQuenched_26 (by decide) (fun c_26 => ?_) (fun c_26 => ?_)
        · refine ev_inc1 dX9_isQuenched_31 (nI_inc _) ?_
          refine ev_goto 2 dX9_isQuenched_34 (by decide) ?_
          exact ih (i + 1) (by omega) (fun k hk => by
            rcases Nat.lt_or_ge k i with h9 | h9
            · exact hall k h9
            · obtain rfl : k = i := by omega
              simp only [p_quN, if_neg c_13, if_pos c_26, ite_self])
        · refine ev_iconst (v := 0) dX9_isQuenched_29 (by decide) ?_
          refine ev_zret dX9_isQuenched_30 ?_ ?_
          · rfl
          · exact ⟨_, rfl, by rw [allB_f (i := i) (by simp only [p_quN, if_neg c_13, if_neg c_26, ite_self]) (by omega)]; rfl, rfl, rfl⟩
  exact loop 4 0 rfl (fun k hk => absurd hk (by omega))
def p_fillN (ms : Nat → Int32) (bits : Int32) (T : Tb) : Nat → Tb
  | 0 => T
  | n + 1 => (upd (p_fillN ms bits T n).1 n (if bt bits n = true then ms n else 0), upd (p_fillN ms bits T n).2.1 n 0, (p_fillN ms bits T n).2.2)
set_option maxRecDepth 10000 in
theorem l_fill (d : Nat) {t : Nat} (ht : tb t) (bits : Int32) (S : gx_S) (L : gx_L) {Q : Option Value → gx_S → gx_L → Prop}  (kk : Ev mX9_fillOnly (d + 1) 47 [some (.ref t), some (.int bits), some (.int (nI (5)))] [] (tS S t (p_fillN (S 12) bits (tG S t) (5))) L Q) : ∀ (n i : Nat), i + n = 5 → Ev mX9_fillOnly (d + 1) 2 [some (.ref t), some (.int bits), some (.int (nI (i)))] [] (tS S t (p_fillN (S 12) bits (tG S t) (i))) L Q := by
  intro n
  induction n with
  | zero =>
    intro i hi
    obtain rfl : i = 5 := hi
    refine ev_ild2 dX9_fillOnly_2 ?_
    refine ev_iconst (v := 5) dX9_fillOnly_3 (by decide) ?_
    refine ev_icmp_ge_t 47 dX9_fillOnly_4 (by decide) (by decide) ?_
    exact kk
  | succ n ih =>
    intro i hi
    refine ev_ild2 dX9_fillOnly_2 ?_
    refine ev_iconst (v := 5) dX9_fillOnly_3 (by decide) ?_
    refine ev_icmp_ge_f 47 dX9_fillOnly_4 (by decide) (nI_ge (b := 5) (by omega) (by decide)) ?_
    refine ev_ald0 dX9_fillOnly_7 ?_
    refine ev_getr (r := t + 1) dX9_fillOnly_8 fl_X9_9 (tp9_1 ht) ?_
    refine ev_ild2 dX9_fillOnly_11 ?_
    refine ev_ild1 dX9_fillOnly_12 ?_
    refine ev_ild2 dX9_fillOnly_13 ?_
    refine ev_S2i (M' := mX10_hasBit) dX9_fillOnly_14 lk_X9_106 sX10_hasBit (c_hasBit d _ _ _ _) (Nat.le_refl _) (Nat.le_of_ble_eq_true rfl) ?_
    refine ev_if_eq 32 dX9_fillOnly_17 (by decide) (fun c_17 => ?_) (fun c_17 => ?_)
    · have b_17 := gx_b_n.mp c_17
      refine ev_iconst (v := 0) dX9_fillOnly_32 (by decide) ?_
      refine ev_iast' dX9_fillOnly_33 (ar9_1 ht) (by omega) (by decide) ?_
      rw [tS_u1]
      refine ev_ald0 dX9_fillOnly_34 ?_
      refine ev_getr (r := t + 2) dX9_fillOnly_35 fl_X9_15 (tp9_2 ht) ?_
      refine ev_ild2 dX9_fillOnly_38 ?_
      refine ev_iconst (v := 0) dX9_fillOnly_39 (by decide) ?_
      refine ev_iast' dX9_fillOnly_40 (ar9_2 ht) (by omega) (by decide) ?_
      rw [tS_u2]
      refine ev_inc2 dX9_fillOnly_41 (nI_inc _) ?_
      refine ev_goto 2 dX9_fillOnly_44 (by decide) ?_
      have e := ih (i + 1) (by omega)
      simp only [p_fillN, if_neg b_17, ite_self] at e
      exact e
    · have b_17 := gx_b_y.mp c_17
      refine ev_ald0 dX9_fillOnly_20 ?_
      refine ev_getr (r := 11) dX9_fillOnly_21 fl_X9_21 (tp9_0 ht) ?_
      refine ev_getr (r := 12) dX9_fillOnly_24 fl_X9_52 rfl ?_
      refine ev_ild2 dX9_fillOnly_27 ?_
      refine ev_iald' dX9_fillOnly_28 rfl (by omega) (by decide) ?_
      rw [(p_aroundN_S (dr := 0) ht _).2.2.1]
      refine ev_goto 33 dX9_fillOnly_29 (by decide) ?_
      refine ev_iast' dX9_fillOnly_33 (ar9_1 ht) (by omega) (by decide) ?_
      rw [tS_u1]
      refine ev_ald0 dX9_fillOnly_34 ?_
      refine ev_getr (r := t + 2) dX9_fillOnly_35 fl_X9_15 (tp9_2 ht) ?_
      refine ev_ild2 dX9_fillOnly_38 ?_
      refine ev_iconst (v := 0) dX9_fillOnly_39 (by decide) ?_
      refine ev_iast' dX9_fillOnly_40 (ar9_2 ht) (by omega) (by decide) ?_
      rw [tS_u2]
      refine ev_inc2 dX9_fillOnly_41 (nI_inc _) ?_
      refine ev_goto 2 dX9_fillOnly_44 (by decide) ?_
      have e := ih (i + 1) (by omega)
      simp only [p_fillN, if_pos b_17, ite_self] at e
      exact e
set_option maxRecDepth 10000 in
theorem c_fillOnly (d : Nat) {t : Nat} (ht : tb t) (bits : Int32) (S : gx_S) (L : gx_L) : Cw (d + 1) mX9_fillOnly [.ref t, .int bits] S L (tS S t (p_fillN (S 12) bits (tG S t) 5)) L := by
  refine ct_intro (loc := [some (.ref t), some (.int bits), none]) (by decide) (Nat.le_of_ble_eq_true rfl) rfl ?_
  refine ev_iconst (v := 0) dX9_fillOnly_0 (by decide) ?_
  refine ev_ist2 dX9_fillOnly_1 ?_
  refine ev_mem (tS_tG S t).symm ?_
  refine l_fill d ht bits S L ?_ 5 0 rfl
  refine ev_vret dX9_fillOnly_47 ?_
  exact ⟨rfl, rfl, rfl⟩
def p_openN (po : Nat → Int32) (T : Tb) : Nat → Tb
  | 0 => T
  | n + 1 => (upd (p_openN po T n).1 n (po n), upd (p_openN po T n).2.1 n 0, (p_openN po T n).2.2)
def p_openM (tf : Nat → Int32) (T : Tb) : Nat → Tb
  | 0 => T
  | n + 1 => ((p_openM tf T n).1, (p_openM tf T n).2.1, upd (p_openM tf T n).2.2.1 n (tf n), (p_openM tf T n).2.2.2)
set_option maxRecDepth 10000 in
theorem l_open1 (d : Nat) {t : Nat} (ht : tb t) (S : gx_S) (L : gx_L) {Q : Option Value → gx_S → gx_L → Prop}  (kk : Ev mX9_openAnew (d) 35 [some (.ref t), some (.int (nI (5)))] [] (tS S t (p_openN (S 13) (tG S t) (5))) L Q) : ∀ (n i : Nat), i + n = 5 → Ev mX9_openAnew (d) 2 [some (.ref t), some (.int (nI (i)))] [] (tS S t (p_openN (S 13) (tG S t) (i))) L Q := by
  intro n
  induction n with
  | zero =>
    intro i hi
    obtain rfl : i = 5 := hi
    refine ev_ild1 dX9_openAnew_2 ?_
    refine ev_iconst (v := 5) dX9_openAnew_3 (by decide) ?_
    refine ev_icmp_ge_t 35 dX9_openAnew_4 (by decide) (by decide) ?_
    exact kk
  | succ n ih =>
    intro i hi
    refine ev_ild1 dX9_openAnew_2 ?_
    refine ev_iconst (v := 5) dX9_openAnew_3 (by decide) ?_
    refine ev_icmp_ge_f 35 dX9_openAnew_4 (by decide) (nI_ge (b := 5) (by omega) (by decide)) ?_
    refine ev_ald0 dX9_openAnew_7 ?_
    refine ev_getr (r := t + 1) dX9_openAnew_8 fl_X9_9 (tp9_1 ht) ?_
    refine ev_ild1 dX9_openAnew_11 ?_
    refine ev_ald0 dX9_openAnew_12 ?_
    refine ev_getr (r := 11) dX9_openAnew_13 fl_X9_21 (tp9_0 ht) ?_
    refine ev_getr (r := 13) dX9_openAnew_16 fl_X9_35 rfl ?_
    refine ev_ild1 dX9_openAnew_19 ?_
    refine ev_iald' dX9_openAnew_20 rfl (by omega) (by decide) ?_
    rw [tS_o S _ (show 13 < t ∨ t + 3 < 13 by have := tb_ge ht; omega)]
    refine ev_iast' dX9_openAnew_21 (ar9_1 ht) (by omega) (by decide) ?_
    rw [tS_u1]
    refine ev_ald0 dX9_openAnew_22 ?_
    refine ev_getr (r := t + 2) dX9_openAnew_23 fl_X9_15 (tp9_2 ht) ?_
    refine ev_ild1 dX9_openAnew_26 ?_
    refine ev_iconst (v := 0) dX9_openAnew_27 (by decide) ?_
    refine ev_iast' dX9_openAnew_28 (ar9_2 ht) (by omega) (by decide) ?_
    rw [tS_u2]
    refine ev_inc1 dX9_openAnew_29 (nI_inc _) ?_
    refine ev_goto 2 dX9_openAnew_32 (by decide) ?_
    exact ih (i + 1) (by omega)
set_option maxRecDepth 10000 in
theorem l_open2 (d : Nat) {t : Nat} (ht : tb t) (S : gx_S) (T : Tb) (L : gx_L) {Q : Option Value → gx_S → gx_L → Prop}  (kk : Ev mX9_openAnew (d) 63 [some (.ref t), some (.int (nI (4)))] [] (tS S t (p_openM (S 15) T (4))) L Q) : ∀ (n i : Nat), i + n = 4 → Ev mX9_openAnew (d) 37 [some (.ref t), some (.int (nI (i)))] [] (tS S t (p_openM (S 15) T (i))) L Q := by
  intro n
  induction n with
  | zero =>
    intro i hi
    obtain rfl : i = 4 := hi
    refine ev_ild1 dX9_openAnew_37 ?_
    refine ev_iconst (v := 4) dX9_openAnew_38 (by decide) ?_
    refine ev_icmp_ge_t 63 dX9_openAnew_39 (by decide) (by decide) ?_
    exact kk
  | succ n ih =>
    intro i hi
    refine ev_ild1 dX9_openAnew_37 ?_
    refine ev_iconst (v := 4) dX9_openAnew_38 (by decide) ?_
    refine ev_icmp_ge_f 63 dX9_openAnew_39 (by decide) (nI_ge (b := 4) (by omega) (by decide)) ?_
    refine ev_ald0 dX9_openAnew_42 ?_
    refine ev_getr (r := t + 3) dX9_openAnew_43 fl_X9_18 (tp9_3 ht) ?_
    refine ev_ild1 dX9_openAnew_46 ?_
    refine ev_ald0 dX9_openAnew_47 ?_
    refine ev_getr (r := 11) dX9_openAnew_48 fl_X9_21 (tp9_0 ht) ?_
    refine ev_getr (r := 15) dX9_openAnew_51 fl_X9_40 rfl ?_
    refine ev_ild1 dX9_openAnew_54 ?_
    refine ev_iald' dX9_openAnew_55 rfl (by omega) (by decide) ?_
    rw [tS_o S _ (show 15 < t ∨ t + 3 < 15 by have := tb_ge ht; omega)]
    refine ev_iast' dX9_openAnew_56 (ar9_3 ht) (by omega) (by decide) ?_
    rw [tS_u3]
    refine ev_inc1 dX9_openAnew_57 (nI_inc _) ?_
    refine ev_goto 37 dX9_openAnew_60 (by decide) ?_
    exact ih (i + 1) (by omega)
set_option maxRecDepth 10000 in
theorem c_openAnew (d : Nat) {t : Nat} (ht : tb t) (S : gx_S) (L : gx_L) : Cw d mX9_openAnew [.ref t] S L (tS S t ((p_openM (S 15) (p_openN (S 13) (tG S t) 5) 4).1, (p_openM (S 15) (p_openN (S 13) (tG S t) 5) 4).2.1, (p_openM (S 15) (p_openN (S 13) (tG S t) 5) 4).2.2.1, 0)) L := by
  refine ct_intro (loc := [some (.ref t), none]) (by decide) (Nat.le_of_ble_eq_true rfl) rfl ?_
  refine ev_iconst (v := 0) dX9_openAnew_0 (by decide) ?_
  refine ev_ist1 dX9_openAnew_1 ?_
  refine ev_mem (tS_tG S t).symm ?_
  refine l_open1 d ht S L ?_ 5 0 rfl
  refine ev_iconst (v := 0) dX9_openAnew_35 (by decide) ?_
  refine ev_ist1 dX9_openAnew_36 ?_
  refine l_open2 d ht S _ L ?_ 4 0 rfl
  refine ev_ald0 dX9_openAnew_63 ?_
  refine ev_iconst (v := 0) dX9_openAnew_64 (by decide) ?_
  refine ev_puti dX9_openAnew_65 fp_X9_31 (tp9_4 ht) ?_
  rw [tS_u4]
  refine ev_vret dX9_openAnew_68 ?_
  exact ⟨rfl, rfl, rfl⟩
end
