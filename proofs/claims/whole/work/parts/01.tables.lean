-- ===== PART A: goes FIRST, ahead of the names: the tables' words, and 'selects' of the private methods out of them =====
/-- a private method of a class that the tables say can be made, by its rows of tables_1 -/
def lw_okq (q : MethodName × Nat) : Prop := (q.1.cls ≠ "java/lang/invoke/MethodHandle" ∧ q.1.cls ≠ "java/lang/invoke/VarHandle") ∧ Cond.instantiable q.1.cls q.2 ∈ tables_1 ∧ Cond.privateMethod q.1 ∈ tables_1 ∧ Cond.instanceMethod q.1 ∈ tables_1
theorem lw_p0 : lw_okq (⟨"ReignLadders$Reigns", "counted", "(II)I"⟩, 5) := ⟨⟨by decide +kernel, by decide +kernel⟩, List.mem_of_getElem? (i := 22) (by decide +kernel), List.mem_of_getElem? (i := 297) (by decide +kernel), List.mem_of_getElem? (i := 298) (by decide +kernel)⟩
theorem lw_p1 : lw_okq (⟨"ReignLadders$Reigns", "otherReading", "(II)I"⟩, 5) := ⟨⟨by decide +kernel, by decide +kernel⟩, List.mem_of_getElem? (i := 22) (by decide +kernel), List.mem_of_getElem? (i := 301) (by decide +kernel), List.mem_of_getElem? (i := 302) (by decide +kernel)⟩
theorem lw_p2 : lw_okq (⟨"ReignLadders", "arePair", "(II)Z"⟩, 9) := ⟨⟨by decide +kernel, by decide +kernel⟩, List.mem_of_getElem? (i := 14) (by decide +kernel), List.mem_of_getElem? (i := 337) (by decide +kernel), List.mem_of_getElem? (i := 338) (by decide +kernel)⟩
theorem lw_p3 : lw_okq (⟨"ReignLadders$Page", "after", "(I)I"⟩, 4) := ⟨⟨by decide +kernel, by decide +kernel⟩, List.mem_of_getElem? (i := 114) (by decide +kernel), List.mem_of_getElem? (i := 448) (by decide +kernel), List.mem_of_getElem? (i := 449) (by decide +kernel)⟩
theorem lw_p4 : lw_okq (⟨"ReignLadders$Page", "afterFactorEnds", "(I)I"⟩, 4) := ⟨⟨by decide +kernel, by decide +kernel⟩, List.mem_of_getElem? (i := 114) (by decide +kernel), List.mem_of_getElem? (i := 458) (by decide +kernel), List.mem_of_getElem? (i := 459) (by decide +kernel)⟩
theorem lw_p5 : lw_okq (⟨"ReignLadders", "schoolOf", "(I)LReignLadders$School;"⟩, 9) := ⟨⟨by decide +kernel, by decide +kernel⟩, List.mem_of_getElem? (i := 14) (by decide +kernel), List.mem_of_getElem? (i := 474) (by decide +kernel), List.mem_of_getElem? (i := 475) (by decide +kernel)⟩
theorem lw_p6 : lw_okq (⟨"ReignLadders", "countFor", "(II)I"⟩, 9) := ⟨⟨by decide +kernel, by decide +kernel⟩, List.mem_of_getElem? (i := 14) (by decide +kernel), List.mem_of_getElem? (i := 505) (by decide +kernel), List.mem_of_getElem? (i := 506) (by decide +kernel)⟩
theorem lw_p7 : lw_okq (⟨"ReignLadders$Subject", "begin", "()V"⟩, 7) := ⟨⟨by decide +kernel, by decide +kernel⟩, List.mem_of_getElem? (i := 86) (by decide +kernel), List.mem_of_getElem? (i := 523) (by decide +kernel), List.mem_of_getElem? (i := 524) (by decide +kernel)⟩
theorem lw_p8 : lw_okq (⟨"ReignLadders$Subject", "end", "()J"⟩, 7) := ⟨⟨by decide +kernel, by decide +kernel⟩, List.mem_of_getElem? (i := 86) (by decide +kernel), List.mem_of_getElem? (i := 527) (by decide +kernel), List.mem_of_getElem? (i := 528) (by decide +kernel)⟩
theorem lw_p9 : lw_okq (⟨"ReignLadders$Subject", "take", "(J)V"⟩, 7) := ⟨⟨by decide +kernel, by decide +kernel⟩, List.mem_of_getElem? (i := 86) (by decide +kernel), List.mem_of_getElem? (i := 531) (by decide +kernel), List.mem_of_getElem? (i := 532) (by decide +kernel)⟩
theorem lw_p10 : lw_okq (⟨"ReignLadders$Subject", "valueOf", "(I)I"⟩, 7) := ⟨⟨by decide +kernel, by decide +kernel⟩, List.mem_of_getElem? (i := 86) (by decide +kernel), List.mem_of_getElem? (i := 539) (by decide +kernel), List.mem_of_getElem? (i := 540) (by decide +kernel)⟩
theorem lw_p11 : lw_okq (⟨"ReignLadders", "beliefFor", "(II)I"⟩, 9) := ⟨⟨by decide +kernel, by decide +kernel⟩, List.mem_of_getElem? (i := 14) (by decide +kernel), List.mem_of_getElem? (i := 550) (by decide +kernel), List.mem_of_getElem? (i := 551) (by decide +kernel)⟩
theorem lw_p12 : lw_okq (⟨"ReignLadders", "lay", "(II)I"⟩, 9) := ⟨⟨by decide +kernel, by decide +kernel⟩, List.mem_of_getElem? (i := 14) (by decide +kernel), List.mem_of_getElem? (i := 561) (by decide +kernel), List.mem_of_getElem? (i := 562) (by decide +kernel)⟩
theorem lw_p13 : lw_okq (⟨"ReignLadders$Ladders", "layBehind", "(III)V"⟩, 18) := ⟨⟨by decide +kernel, by decide +kernel⟩, List.mem_of_getElem? (i := 133) (by decide +kernel), List.mem_of_getElem? (i := 582) (by decide +kernel), List.mem_of_getElem? (i := 583) (by decide +kernel)⟩
theorem lw_p14 : lw_okq (⟨"ReignLadders", "believedBy", "(II)I"⟩, 9) := ⟨⟨by decide +kernel, by decide +kernel⟩, List.mem_of_getElem? (i := 14) (by decide +kernel), List.mem_of_getElem? (i := 599) (by decide +kernel), List.mem_of_getElem? (i := 600) (by decide +kernel)⟩
theorem lw_p15 : lw_okq (⟨"ReignLadders$Ladders", "layTies", "(I)Z"⟩, 18) := ⟨⟨by decide +kernel, by decide +kernel⟩, List.mem_of_getElem? (i := 133) (by decide +kernel), List.mem_of_getElem? (i := 612) (by decide +kernel), List.mem_of_getElem? (i := 613) (by decide +kernel)⟩
def lw_privs_1 : List (MethodName × Nat) := [(⟨"ReignLadders$Reigns", "counted", "(II)I"⟩, 5), (⟨"ReignLadders$Reigns", "otherReading", "(II)I"⟩, 5), (⟨"ReignLadders", "arePair", "(II)Z"⟩, 9), (⟨"ReignLadders$Page", "after", "(I)I"⟩, 4), (⟨"ReignLadders$Page", "afterFactorEnds", "(I)I"⟩, 4), (⟨"ReignLadders", "schoolOf", "(I)LReignLadders$School;"⟩, 9), (⟨"ReignLadders", "countFor", "(II)I"⟩, 9), (⟨"ReignLadders$Subject", "begin", "()V"⟩, 7), (⟨"ReignLadders$Subject", "end", "()J"⟩, 7), (⟨"ReignLadders$Subject", "take", "(J)V"⟩, 7), (⟨"ReignLadders$Subject", "valueOf", "(I)I"⟩, 7), (⟨"ReignLadders", "beliefFor", "(II)I"⟩, 9), (⟨"ReignLadders", "lay", "(II)I"⟩, 9), (⟨"ReignLadders$Ladders", "layBehind", "(III)V"⟩, 18), (⟨"ReignLadders", "believedBy", "(II)I"⟩, 9), (⟨"ReignLadders$Ladders", "layTies", "(I)Z"⟩, 18)]
theorem lw_r1 : ∀ q ∈ lw_privs_1, lw_okq q := List.forall_mem_cons.mpr ⟨lw_p0, List.forall_mem_cons.mpr ⟨lw_p1, List.forall_mem_cons.mpr ⟨lw_p2, List.forall_mem_cons.mpr ⟨lw_p3, List.forall_mem_cons.mpr ⟨lw_p4, List.forall_mem_cons.mpr ⟨lw_p5, List.forall_mem_cons.mpr ⟨lw_p6, List.forall_mem_cons.mpr ⟨lw_p7, List.forall_mem_cons.mpr ⟨lw_p8, List.forall_mem_cons.mpr ⟨lw_p9, List.forall_mem_cons.mpr ⟨lw_p10, List.forall_mem_cons.mpr ⟨lw_p11, List.forall_mem_cons.mpr ⟨lw_p12, List.forall_mem_cons.mpr ⟨lw_p13, List.forall_mem_cons.mpr ⟨lw_p14, List.forall_mem_cons.mpr ⟨lw_p15, fun _ h => absurd h List.not_mem_nil⟩⟩⟩⟩⟩⟩⟩⟩⟩⟩⟩⟩⟩⟩⟩⟩
theorem lw_p16 : lw_okq (⟨"ReignLadders$Ladders", "layTie", "(I)Z"⟩, 18) := ⟨⟨by decide +kernel, by decide +kernel⟩, List.mem_of_getElem? (i := 133) (by decide +kernel), List.mem_of_getElem? (i := 624) (by decide +kernel), List.mem_of_getElem? (i := 625) (by decide +kernel)⟩
theorem lw_p17 : lw_okq (⟨"ReignLadders$Ladders", "layPair", "(LReignLadders$Ties;I)Z"⟩, 18) := ⟨⟨by decide +kernel, by decide +kernel⟩, List.mem_of_getElem? (i := 133) (by decide +kernel), List.mem_of_getElem? (i := 629) (by decide +kernel), List.mem_of_getElem? (i := 630) (by decide +kernel)⟩
theorem lw_p18 : lw_okq (⟨"ReignLadders$Ladders", "takeForks", "(I)Z"⟩, 18) := ⟨⟨by decide +kernel, by decide +kernel⟩, List.mem_of_getElem? (i := 133) (by decide +kernel), List.mem_of_getElem? (i := 642) (by decide +kernel), List.mem_of_getElem? (i := 643) (by decide +kernel)⟩
theorem lw_p19 : lw_okq (⟨"ReignLadders$Ladders", "tryYears", "(Z)V"⟩, 18) := ⟨⟨by decide +kernel, by decide +kernel⟩, List.mem_of_getElem? (i := 133) (by decide +kernel), List.mem_of_getElem? (i := 647) (by decide +kernel), List.mem_of_getElem? (i := 648) (by decide +kernel)⟩
theorem lw_p20 : lw_okq (⟨"ReignLadders$Ladders", "yearsOf", "(I)I"⟩, 18) := ⟨⟨by decide +kernel, by decide +kernel⟩, List.mem_of_getElem? (i := 133) (by decide +kernel), List.mem_of_getElem? (i := 651) (by decide +kernel), List.mem_of_getElem? (i := 652) (by decide +kernel)⟩
theorem lw_p21 : lw_okq (⟨"ReignLadders$Ladders", "beginning", "(II)I"⟩, 18) := ⟨⟨by decide +kernel, by decide +kernel⟩, List.mem_of_getElem? (i := 133) (by decide +kernel), List.mem_of_getElem? (i := 655) (by decide +kernel), List.mem_of_getElem? (i := 656) (by decide +kernel)⟩
theorem lw_p22 : lw_okq (⟨"ReignLadders$Ladders", "pointOf", "(I)I"⟩, 18) := ⟨⟨by decide +kernel, by decide +kernel⟩, List.mem_of_getElem? (i := 133) (by decide +kernel), List.mem_of_getElem? (i := 659) (by decide +kernel), List.mem_of_getElem? (i := 660) (by decide +kernel)⟩
theorem lw_p23 : lw_okq (⟨"ReignLadders$Ladders", "widen", "(II)V"⟩, 18) := ⟨⟨by decide +kernel, by decide +kernel⟩, List.mem_of_getElem? (i := 133) (by decide +kernel), List.mem_of_getElem? (i := 672) (by decide +kernel), List.mem_of_getElem? (i := 673) (by decide +kernel)⟩
theorem lw_p24 : lw_okq (⟨"ReignLadders", "holders", "(III)I"⟩, 9) := ⟨⟨by decide +kernel, by decide +kernel⟩, List.mem_of_getElem? (i := 14) (by decide +kernel), List.mem_of_getElem? (i := 691) (by decide +kernel), List.mem_of_getElem? (i := 692) (by decide +kernel)⟩
theorem lw_p25 : lw_okq (⟨"ReignLadders", "doubted", "(II)I"⟩, 9) := ⟨⟨by decide +kernel, by decide +kernel⟩, List.mem_of_getElem? (i := 14) (by decide +kernel), List.mem_of_getElem? (i := 699) (by decide +kernel), List.mem_of_getElem? (i := 700) (by decide +kernel)⟩
theorem lw_p26 : lw_okq (⟨"ReignLadders", "afloat", "(II)I"⟩, 9) := ⟨⟨by decide +kernel, by decide +kernel⟩, List.mem_of_getElem? (i := 14) (by decide +kernel), List.mem_of_getElem? (i := 713) (by decide +kernel), List.mem_of_getElem? (i := 714) (by decide +kernel)⟩
theorem lw_p27 : lw_okq (⟨"ReignLadders", "gain", "(IIII)I"⟩, 9) := ⟨⟨by decide +kernel, by decide +kernel⟩, List.mem_of_getElem? (i := 14) (by decide +kernel), List.mem_of_getElem? (i := 759) (by decide +kernel), List.mem_of_getElem? (i := 760) (by decide +kernel)⟩
theorem lw_p28 : lw_okq (⟨"ReignLadders", "sayingsDigest", "(JI)J"⟩, 9) := ⟨⟨by decide +kernel, by decide +kernel⟩, List.mem_of_getElem? (i := 14) (by decide +kernel), List.mem_of_getElem? (i := 822) (by decide +kernel), List.mem_of_getElem? (i := 823) (by decide +kernel)⟩
theorem lw_p29 : lw_okq (⟨"ReignLaddersModel", "lastOf", "(I)I"⟩, 34) := ⟨⟨by decide +kernel, by decide +kernel⟩, List.mem_of_getElem? (i := 839) (by decide +kernel), List.mem_of_getElem? (i := 960) (by decide +kernel), List.mem_of_getElem? (i := 961) (by decide +kernel)⟩
theorem lw_p30 : lw_okq (⟨"ReignLaddersModel", "isReign", "(I)Z"⟩, 34) := ⟨⟨by decide +kernel, by decide +kernel⟩, List.mem_of_getElem? (i := 839) (by decide +kernel), List.mem_of_getElem? (i := 971) (by decide +kernel), List.mem_of_getElem? (i := 972) (by decide +kernel)⟩
theorem lw_p31 : lw_okq (⟨"ReignLaddersModel", "aboutOf", "(II)I"⟩, 34) := ⟨⟨by decide +kernel, by decide +kernel⟩, List.mem_of_getElem? (i := 839) (by decide +kernel), List.mem_of_getElem? (i := 975) (by decide +kernel), List.mem_of_getElem? (i := 976) (by decide +kernel)⟩
def lw_privs_2 : List (MethodName × Nat) := [(⟨"ReignLadders$Ladders", "layTie", "(I)Z"⟩, 18), (⟨"ReignLadders$Ladders", "layPair", "(LReignLadders$Ties;I)Z"⟩, 18), (⟨"ReignLadders$Ladders", "takeForks", "(I)Z"⟩, 18), (⟨"ReignLadders$Ladders", "tryYears", "(Z)V"⟩, 18), (⟨"ReignLadders$Ladders", "yearsOf", "(I)I"⟩, 18), (⟨"ReignLadders$Ladders", "beginning", "(II)I"⟩, 18), (⟨"ReignLadders$Ladders", "pointOf", "(I)I"⟩, 18), (⟨"ReignLadders$Ladders", "widen", "(II)V"⟩, 18), (⟨"ReignLadders", "holders", "(III)I"⟩, 9), (⟨"ReignLadders", "doubted", "(II)I"⟩, 9), (⟨"ReignLadders", "afloat", "(II)I"⟩, 9), (⟨"ReignLadders", "gain", "(IIII)I"⟩, 9), (⟨"ReignLadders", "sayingsDigest", "(JI)J"⟩, 9), (⟨"ReignLaddersModel", "lastOf", "(I)I"⟩, 34), (⟨"ReignLaddersModel", "isReign", "(I)Z"⟩, 34), (⟨"ReignLaddersModel", "aboutOf", "(II)I"⟩, 34)]
theorem lw_r2 : ∀ q ∈ lw_privs_2, lw_okq q := List.forall_mem_cons.mpr ⟨lw_p16, List.forall_mem_cons.mpr ⟨lw_p17, List.forall_mem_cons.mpr ⟨lw_p18, List.forall_mem_cons.mpr ⟨lw_p19, List.forall_mem_cons.mpr ⟨lw_p20, List.forall_mem_cons.mpr ⟨lw_p21, List.forall_mem_cons.mpr ⟨lw_p22, List.forall_mem_cons.mpr ⟨lw_p23, List.forall_mem_cons.mpr ⟨lw_p24, List.forall_mem_cons.mpr ⟨lw_p25, List.forall_mem_cons.mpr ⟨lw_p26, List.forall_mem_cons.mpr ⟨lw_p27, List.forall_mem_cons.mpr ⟨lw_p28, List.forall_mem_cons.mpr ⟨lw_p29, List.forall_mem_cons.mpr ⟨lw_p30, List.forall_mem_cons.mpr ⟨lw_p31, fun _ h => absurd h List.not_mem_nil⟩⟩⟩⟩⟩⟩⟩⟩⟩⟩⟩⟩⟩⟩⟩⟩
theorem lw_p32 : lw_okq (⟨"ReignLaddersModel", "leastOf", "(II)I"⟩, 34) := ⟨⟨by decide +kernel, by decide +kernel⟩, List.mem_of_getElem? (i := 839) (by decide +kernel), List.mem_of_getElem? (i := 987) (by decide +kernel), List.mem_of_getElem? (i := 988) (by decide +kernel)⟩
theorem lw_p33 : lw_okq (⟨"ReignLaddersModel", "otherLength", "(II)I"⟩, 34) := ⟨⟨by decide +kernel, by decide +kernel⟩, List.mem_of_getElem? (i := 839) (by decide +kernel), List.mem_of_getElem? (i := 991) (by decide +kernel), List.mem_of_getElem? (i := 992) (by decide +kernel)⟩
theorem lw_p34 : lw_okq (⟨"ReignLaddersModel", "mostOf", "(II)I"⟩, 34) := ⟨⟨by decide +kernel, by decide +kernel⟩, List.mem_of_getElem? (i := 839) (by decide +kernel), List.mem_of_getElem? (i := 995) (by decide +kernel), List.mem_of_getElem? (i := 996) (by decide +kernel)⟩
theorem lw_p35 : lw_okq (⟨"ReignLaddersModel", "lengthsOf", "(II)I"⟩, 34) := ⟨⟨by decide +kernel, by decide +kernel⟩, List.mem_of_getElem? (i := 839) (by decide +kernel), List.mem_of_getElem? (i := 999) (by decide +kernel), List.mem_of_getElem? (i := 1000) (by decide +kernel)⟩
theorem lw_p36 : lw_okq (⟨"ReignLaddersModel", "come", "(IIIIIII)I"⟩, 34) := ⟨⟨by decide +kernel, by decide +kernel⟩, List.mem_of_getElem? (i := 839) (by decide +kernel), List.mem_of_getElem? (i := 1014) (by decide +kernel), List.mem_of_getElem? (i := 1015) (by decide +kernel)⟩
theorem lw_p37 : lw_okq (⟨"ReignLaddersModel", "isTie", "(I)Z"⟩, 34) := ⟨⟨by decide +kernel, by decide +kernel⟩, List.mem_of_getElem? (i := 839) (by decide +kernel), List.mem_of_getElem? (i := 1037) (by decide +kernel), List.mem_of_getElem? (i := 1038) (by decide +kernel)⟩
theorem lw_p38 : lw_okq (⟨"ReignLaddersModel", "readText", "()V"⟩, 34) := ⟨⟨by decide +kernel, by decide +kernel⟩, List.mem_of_getElem? (i := 839) (by decide +kernel), List.mem_of_getElem? (i := 1058) (by decide +kernel), List.mem_of_getElem? (i := 1059) (by decide +kernel)⟩
theorem lw_p39 : lw_okq (⟨"ReignLaddersModel", "next", "(III)I"⟩, 34) := ⟨⟨by decide +kernel, by decide +kernel⟩, List.mem_of_getElem? (i := 839) (by decide +kernel), List.mem_of_getElem? (i := 1062) (by decide +kernel), List.mem_of_getElem? (i := 1063) (by decide +kernel)⟩
theorem lw_p40 : lw_okq (⟨"ReignLaddersModel", "countsOf", "(II)I"⟩, 34) := ⟨⟨by decide +kernel, by decide +kernel⟩, List.mem_of_getElem? (i := 839) (by decide +kernel), List.mem_of_getElem? (i := 1084) (by decide +kernel), List.mem_of_getElem? (i := 1085) (by decide +kernel)⟩
theorem lw_p41 : lw_okq (⟨"ReignLaddersModel", "saysOf", "(III)I"⟩, 34) := ⟨⟨by decide +kernel, by decide +kernel⟩, List.mem_of_getElem? (i := 839) (by decide +kernel), List.mem_of_getElem? (i := 1088) (by decide +kernel), List.mem_of_getElem? (i := 1089) (by decide +kernel)⟩
theorem lw_p42 : lw_okq (⟨"ReignLaddersModel", "holds", "(I)Z"⟩, 34) := ⟨⟨by decide +kernel, by decide +kernel⟩, List.mem_of_getElem? (i := 839) (by decide +kernel), List.mem_of_getElem? (i := 1092) (by decide +kernel), List.mem_of_getElem? (i := 1093) (by decide +kernel)⟩
theorem lw_p43 : lw_okq (⟨"ReignLaddersModel", "openGroup", "()V"⟩, 34) := ⟨⟨by decide +kernel, by decide +kernel⟩, List.mem_of_getElem? (i := 839) (by decide +kernel), List.mem_of_getElem? (i := 1096) (by decide +kernel), List.mem_of_getElem? (i := 1097) (by decide +kernel)⟩
theorem lw_p44 : lw_okq (⟨"ReignLaddersModel", "factor", "(Z)V"⟩, 34) := ⟨⟨by decide +kernel, by decide +kernel⟩, List.mem_of_getElem? (i := 839) (by decide +kernel), List.mem_of_getElem? (i := 1100) (by decide +kernel), List.mem_of_getElem? (i := 1101) (by decide +kernel)⟩
theorem lw_p45 : lw_okq (⟨"ReignLaddersModel", "believesOf", "(II)I"⟩, 34) := ⟨⟨by decide +kernel, by decide +kernel⟩, List.mem_of_getElem? (i := 839) (by decide +kernel), List.mem_of_getElem? (i := 1111) (by decide +kernel), List.mem_of_getElem? (i := 1112) (by decide +kernel)⟩
theorem lw_p46 : lw_okq (⟨"ReignLaddersModel", "tiesOf", "(II)I"⟩, 34) := ⟨⟨by decide +kernel, by decide +kernel⟩, List.mem_of_getElem? (i := 839) (by decide +kernel), List.mem_of_getElem? (i := 1119) (by decide +kernel), List.mem_of_getElem? (i := 1120) (by decide +kernel)⟩
theorem lw_p47 : lw_okq (⟨"ReignLaddersModel", "isKnown", "(II)Z"⟩, 34) := ⟨⟨by decide +kernel, by decide +kernel⟩, List.mem_of_getElem? (i := 839) (by decide +kernel), List.mem_of_getElem? (i := 1123) (by decide +kernel), List.mem_of_getElem? (i := 1124) (by decide +kernel)⟩
def lw_privs_3 : List (MethodName × Nat) := [(⟨"ReignLaddersModel", "leastOf", "(II)I"⟩, 34), (⟨"ReignLaddersModel", "otherLength", "(II)I"⟩, 34), (⟨"ReignLaddersModel", "mostOf", "(II)I"⟩, 34), (⟨"ReignLaddersModel", "lengthsOf", "(II)I"⟩, 34), (⟨"ReignLaddersModel", "come", "(IIIIIII)I"⟩, 34), (⟨"ReignLaddersModel", "isTie", "(I)Z"⟩, 34), (⟨"ReignLaddersModel", "readText", "()V"⟩, 34), (⟨"ReignLaddersModel", "next", "(III)I"⟩, 34), (⟨"ReignLaddersModel", "countsOf", "(II)I"⟩, 34), (⟨"ReignLaddersModel", "saysOf", "(III)I"⟩, 34), (⟨"ReignLaddersModel", "holds", "(I)Z"⟩, 34), (⟨"ReignLaddersModel", "openGroup", "()V"⟩, 34), (⟨"ReignLaddersModel", "factor", "(Z)V"⟩, 34), (⟨"ReignLaddersModel", "believesOf", "(II)I"⟩, 34), (⟨"ReignLaddersModel", "tiesOf", "(II)I"⟩, 34), (⟨"ReignLaddersModel", "isKnown", "(II)Z"⟩, 34)]
theorem lw_r3 : ∀ q ∈ lw_privs_3, lw_okq q := List.forall_mem_cons.mpr ⟨lw_p32, List.forall_mem_cons.mpr ⟨lw_p33, List.forall_mem_cons.mpr ⟨lw_p34, List.forall_mem_cons.mpr ⟨lw_p35, List.forall_mem_cons.mpr ⟨lw_p36, List.forall_mem_cons.mpr ⟨lw_p37, List.forall_mem_cons.mpr ⟨lw_p38, List.forall_mem_cons.mpr ⟨lw_p39, List.forall_mem_cons.mpr ⟨lw_p40, List.forall_mem_cons.mpr ⟨lw_p41, List.forall_mem_cons.mpr ⟨lw_p42, List.forall_mem_cons.mpr ⟨lw_p43, List.forall_mem_cons.mpr ⟨lw_p44, List.forall_mem_cons.mpr ⟨lw_p45, List.forall_mem_cons.mpr ⟨lw_p46, List.forall_mem_cons.mpr ⟨lw_p47, fun _ h => absurd h List.not_mem_nil⟩⟩⟩⟩⟩⟩⟩⟩⟩⟩⟩⟩⟩⟩⟩⟩
theorem lw_p48 : lw_okq (⟨"ReignLaddersModel", "solve", "(IIII)V"⟩, 34) := ⟨⟨by decide +kernel, by decide +kernel⟩, List.mem_of_getElem? (i := 839) (by decide +kernel), List.mem_of_getElem? (i := 1127) (by decide +kernel), List.mem_of_getElem? (i := 1128) (by decide +kernel)⟩
theorem lw_p49 : lw_okq (⟨"ReignLaddersModel", "layChoice", "(II)Z"⟩, 34) := ⟨⟨by decide +kernel, by decide +kernel⟩, List.mem_of_getElem? (i := 839) (by decide +kernel), List.mem_of_getElem? (i := 1131) (by decide +kernel), List.mem_of_getElem? (i := 1132) (by decide +kernel)⟩
theorem lw_p50 : lw_okq (⟨"ReignLaddersModel", "bind", "(IIII)V"⟩, 34) := ⟨⟨by decide +kernel, by decide +kernel⟩, List.mem_of_getElem? (i := 839) (by decide +kernel), List.mem_of_getElem? (i := 1136) (by decide +kernel), List.mem_of_getElem? (i := 1137) (by decide +kernel)⟩
theorem lw_p51 : lw_okq (⟨"ReignLaddersModel", "misreadAhead", "(I)I"⟩, 34) := ⟨⟨by decide +kernel, by decide +kernel⟩, List.mem_of_getElem? (i := 839) (by decide +kernel), List.mem_of_getElem? (i := 1140) (by decide +kernel), List.mem_of_getElem? (i := 1141) (by decide +kernel)⟩
theorem lw_p52 : lw_okq (⟨"ReignLaddersModel", "layTie", "(II)V"⟩, 34) := ⟨⟨by decide +kernel, by decide +kernel⟩, List.mem_of_getElem? (i := 839) (by decide +kernel), List.mem_of_getElem? (i := 1144) (by decide +kernel), List.mem_of_getElem? (i := 1145) (by decide +kernel)⟩
theorem lw_p53 : lw_okq (⟨"ReignLaddersModel", "closeWays", "()Z"⟩, 34) := ⟨⟨by decide +kernel, by decide +kernel⟩, List.mem_of_getElem? (i := 839) (by decide +kernel), List.mem_of_getElem? (i := 1149) (by decide +kernel), List.mem_of_getElem? (i := 1150) (by decide +kernel)⟩
theorem lw_p54 : lw_okq (⟨"ReignLaddersModel", "take", "(I)V"⟩, 34) := ⟨⟨by decide +kernel, by decide +kernel⟩, List.mem_of_getElem? (i := 839) (by decide +kernel), List.mem_of_getElem? (i := 1153) (by decide +kernel), List.mem_of_getElem? (i := 1154) (by decide +kernel)⟩
theorem lw_p55 : lw_okq (⟨"ReignLaddersModel", "floatsOf", "(II)I"⟩, 34) := ⟨⟨by decide +kernel, by decide +kernel⟩, List.mem_of_getElem? (i := 839) (by decide +kernel), List.mem_of_getElem? (i := 1176) (by decide +kernel), List.mem_of_getElem? (i := 1177) (by decide +kernel)⟩
theorem lw_p56 : lw_okq (⟨"ReignLaddersModel", "openNow", "(I)I"⟩, 34) := ⟨⟨by decide +kernel, by decide +kernel⟩, List.mem_of_getElem? (i := 839) (by decide +kernel), List.mem_of_getElem? (i := 1184) (by decide +kernel), List.mem_of_getElem? (i := 1185) (by decide +kernel)⟩
theorem lw_p57 : lw_okq (⟨"ReignLaddersModel", "closesOf", "(III)I"⟩, 34) := ⟨⟨by decide +kernel, by decide +kernel⟩, List.mem_of_getElem? (i := 839) (by decide +kernel), List.mem_of_getElem? (i := 1200) (by decide +kernel), List.mem_of_getElem? (i := 1201) (by decide +kernel)⟩
theorem lw_p58 : lw_okq (⟨"ReignLaddersModel", "mayLast", "(III)Z"⟩, 34) := ⟨⟨by decide +kernel, by decide +kernel⟩, List.mem_of_getElem? (i := 839) (by decide +kernel), List.mem_of_getElem? (i := 1216) (by decide +kernel), List.mem_of_getElem? (i := 1217) (by decide +kernel)⟩
theorem lw_p59 : lw_okq (⟨"ReignLaddersModel", "holdsTold", "(I)Z"⟩, 34) := ⟨⟨by decide +kernel, by decide +kernel⟩, List.mem_of_getElem? (i := 839) (by decide +kernel), List.mem_of_getElem? (i := 1220) (by decide +kernel), List.mem_of_getElem? (i := 1221) (by decide +kernel)⟩
theorem lw_p60 : lw_okq (⟨"ReignLaddersModel", "howMany", "(I)I"⟩, 34) := ⟨⟨by decide +kernel, by decide +kernel⟩, List.mem_of_getElem? (i := 839) (by decide +kernel), List.mem_of_getElem? (i := 1228) (by decide +kernel), List.mem_of_getElem? (i := 1229) (by decide +kernel)⟩
theorem lw_p61 : lw_okq (⟨"ReignLaddersModel", "mix", "(J)V"⟩, 34) := ⟨⟨by decide +kernel, by decide +kernel⟩, List.mem_of_getElem? (i := 839) (by decide +kernel), List.mem_of_getElem? (i := 1237) (by decide +kernel), List.mem_of_getElem? (i := 1238) (by decide +kernel)⟩
def lw_privs_4 : List (MethodName × Nat) := [(⟨"ReignLaddersModel", "solve", "(IIII)V"⟩, 34), (⟨"ReignLaddersModel", "layChoice", "(II)Z"⟩, 34), (⟨"ReignLaddersModel", "bind", "(IIII)V"⟩, 34), (⟨"ReignLaddersModel", "misreadAhead", "(I)I"⟩, 34), (⟨"ReignLaddersModel", "layTie", "(II)V"⟩, 34), (⟨"ReignLaddersModel", "closeWays", "()Z"⟩, 34), (⟨"ReignLaddersModel", "take", "(I)V"⟩, 34), (⟨"ReignLaddersModel", "floatsOf", "(II)I"⟩, 34), (⟨"ReignLaddersModel", "openNow", "(I)I"⟩, 34), (⟨"ReignLaddersModel", "closesOf", "(III)I"⟩, 34), (⟨"ReignLaddersModel", "mayLast", "(III)Z"⟩, 34), (⟨"ReignLaddersModel", "holdsTold", "(I)Z"⟩, 34), (⟨"ReignLaddersModel", "howMany", "(I)I"⟩, 34), (⟨"ReignLaddersModel", "mix", "(J)V"⟩, 34)]
theorem lw_r4 : ∀ q ∈ lw_privs_4, lw_okq q := List.forall_mem_cons.mpr ⟨lw_p48, List.forall_mem_cons.mpr ⟨lw_p49, List.forall_mem_cons.mpr ⟨lw_p50, List.forall_mem_cons.mpr ⟨lw_p51, List.forall_mem_cons.mpr ⟨lw_p52, List.forall_mem_cons.mpr ⟨lw_p53, List.forall_mem_cons.mpr ⟨lw_p54, List.forall_mem_cons.mpr ⟨lw_p55, List.forall_mem_cons.mpr ⟨lw_p56, List.forall_mem_cons.mpr ⟨lw_p57, List.forall_mem_cons.mpr ⟨lw_p58, List.forall_mem_cons.mpr ⟨lw_p59, List.forall_mem_cons.mpr ⟨lw_p60, List.forall_mem_cons.mpr ⟨lw_p61, fun _ h => absurd h List.not_mem_nil⟩⟩⟩⟩⟩⟩⟩⟩⟩⟩⟩⟩⟩⟩
def lw_privs : List (MethodName × Nat) := lw_privs_1 ++ (lw_privs_2 ++ (lw_privs_3 ++ (lw_privs_4)))
def lw_tbl : List Cond := k2_sels lw_privs ++ tables_1
theorem lw_privs_ok : ∀ q ∈ lw_privs, lw_okq q := by
  show ∀ q ∈ lw_privs_1 ++ (lw_privs_2 ++ (lw_privs_3 ++ (lw_privs_4))), lw_okq q
  exact List.forall_mem_append.mpr ⟨lw_r1, List.forall_mem_append.mpr ⟨lw_r2, List.forall_mem_append.mpr ⟨lw_r3, lw_r4⟩⟩⟩
-- ===== end of PART A; then your names; then what follows =====
def RX0 : String := "ReignLadders$Grid"
def TX0 : u_T := fun k => match k with
  | 0 => ("ReignLadders$Grid", "cells", "[I", true)
  | _ => ("ReignLadders$Grid", "points", "I", false)
def tyX0 : Nat → FieldType := fun k => match k with
  | 0 => .array .int
  | _ => .int
abbrev wsX00 : List Cond := u_ws RX0 TX0 2
theorem nmX0 : ∀ a, a < 2 → ∀ b, b < 2 → a ≠ b → (TX0 a).2.1 ≠ (TX0 b).2.1 := by decide +kernel
theorem tyX0_ok : ∀ k, k < 2 → parseFieldDescriptor (TX0 k).2.2.1 = some (tyX0 k) := by decide +kernel
abbrev cX0_init : ByteArray := prog_2_method_1_code
def yX0_init : MethodName := ⟨RX0, "<init>", "()V"⟩
abbrev cX0_clear : ByteArray := prog_2_method_2_code
def yX0_clear : MethodName := ⟨RX0, "clear", "(I)V"⟩
abbrev cX0_copy : ByteArray := prog_2_method_3_code
def yX0_copy : MethodName := ⟨RX0, "copy", "(LReignLadders$Grid;)V"⟩
abbrev cX0_most : ByteArray := prog_2_method_4_code
def yX0_most : MethodName := ⟨RX0, "most", "(II)I"⟩
abbrev cX0_keep : ByteArray := prog_2_method_5_code
def yX0_keep : MethodName := ⟨RX0, "keep", "(IIII)Z"⟩
abbrev cX0_hold : ByteArray := prog_2_method_6_code
def yX0_hold : MethodName := ⟨RX0, "hold", "(III)Z"⟩
abbrev cX0_allows : ByteArray := prog_2_method_7_code
def yX0_allows : MethodName := ⟨RX0, "allows", "(IIII)Z"⟩
def RX1 : String := "ReignLadders$Ladders"
def TX1 : u_T := fun k => match k with
  | 0 => ("ReignLadders$Ladders", "reigns", "LReignLadders$Reigns;", true)
  | 1 => ("ReignLadders$Ladders", "ties", "LReignLadders$Ties;", true)
  | 2 => ("ReignLadders$Ladders", "wishes", "LReignLadders$Ties;", true)
  | 3 => ("ReignLadders$Ladders", "lists", "LReignLadders$Grid;", true)
  | 4 => ("ReignLadders$Ladders", "tiedLists", "LReignLadders$Grid;", true)
  | 5 => ("ReignLadders$Ladders", "trial", "LReignLadders$Grid;", true)
  | 6 => ("ReignLadders$Ladders", "forkBehind", "[I", true)
  | 7 => ("ReignLadders$Ladders", "forkLeast", "[I", true)
  | 8 => ("ReignLadders$Ladders", "forkMost", "[I", true)
  | 9 => ("ReignLadders$Ladders", "least", "[I", true)
  | 10 => ("ReignLadders$Ladders", "greatest", "[I", true)
  | 11 => ("ReignLadders$Ladders", "keptLeast", "[I", true)
  | 12 => ("ReignLadders$Ladders", "keptGreatest", "[I", true)
  | 13 => ("ReignLadders$Ladders", "edition", "I", false)
  | 14 => ("ReignLadders$Ladders", "forks", "I", false)
  | 15 => ("ReignLadders$Ladders", "firstSky", "I", false)
  | 16 => ("ReignLadders$Ladders", "secondSky", "I", false)
  | _ => ("ReignLadders$Ladders", "found", "Z", false)
def tyX1 : Nat → FieldType := fun k => match k with
  | 0 => .object "ReignLadders$Reigns"
  | 1 => .object "ReignLadders$Ties"
  | 2 => .object "ReignLadders$Ties"
  | 3 => .object "ReignLadders$Grid"
  | 4 => .object "ReignLadders$Grid"
  | 5 => .object "ReignLadders$Grid"
  | 6 => .array .int
  | 7 => .array .int
  | 8 => .array .int
  | 9 => .array .int
  | 10 => .array .int
  | 11 => .array .int
  | 12 => .array .int
  | 13 => .int
  | 14 => .int
  | 15 => .int
  | 16 => .int
  | _ => .boolean
abbrev wsX10 : List Cond := u_ws RX1 TX1 18
theorem nmX1 : ∀ a, a < 18 → ∀ b, b < 18 → a ≠ b → (TX1 a).2.1 ≠ (TX1 b).2.1 := by decide +kernel
theorem tyX1_ok : ∀ k, k < 18 → parseFieldDescriptor (TX1 k).2.2.1 = some (tyX1 k) := by decide +kernel
abbrev cX1_init : ByteArray := prog_3_method_1_code
def yX1_init : MethodName := ⟨RX1, "<init>", "(LReignLadders$Reigns;LReignLadders$Ties;LReignLadders$Ties;)V"⟩
abbrev cX1_layLists : ByteArray := prog_3_method_2_code
def yX1_layLists : MethodName := ⟨RX1, "layLists", "(II)V"⟩
abbrev cX1_layBehind : ByteArray := prog_3_method_3_code
def yX1_layBehind : MethodName := ⟨RX1, "layBehind", "(III)V"⟩
abbrev cX1_find : ByteArray := prog_3_method_4_code
def yX1_find : MethodName := ⟨RX1, "find", "(IIZ)Z"⟩
abbrev cX1_layTies : ByteArray := prog_3_method_5_code
def yX1_layTies : MethodName := ⟨RX1, "layTies", "(I)Z"⟩
abbrev cX1_layTie : ByteArray := prog_3_method_6_code
def yX1_layTie : MethodName := ⟨RX1, "layTie", "(I)Z"⟩
abbrev cX1_layPair : ByteArray := prog_3_method_7_code
def yX1_layPair : MethodName := ⟨RX1, "layPair", "(LReignLadders$Ties;I)Z"⟩
abbrev cX1_takeForks : ByteArray := prog_3_method_8_code
def yX1_takeForks : MethodName := ⟨RX1, "takeForks", "(I)Z"⟩
abbrev cX1_tryYears : ByteArray := prog_3_method_9_code
def yX1_tryYears : MethodName := ⟨RX1, "tryYears", "(Z)V"⟩
abbrev cX1_yearsOf : ByteArray := prog_3_method_10_code
def yX1_yearsOf : MethodName := ⟨RX1, "yearsOf", "(I)I"⟩
abbrev cX1_pointOf : ByteArray := prog_3_method_11_code
def yX1_pointOf : MethodName := ⟨RX1, "pointOf", "(I)I"⟩
abbrev cX1_beginning : ByteArray := prog_3_method_12_code
def yX1_beginning : MethodName := ⟨RX1, "beginning", "(II)I"⟩
abbrev cX1_widen : ByteArray := prog_3_method_13_code
def yX1_widen : MethodName := ⟨RX1, "widen", "(II)V"⟩
abbrev cX1_end : ByteArray := prog_3_method_14_code
def yX1_end : MethodName := ⟨RX1, "end", "(II)I"⟩
abbrev cX1_openness : ByteArray := prog_3_method_15_code
def yX1_openness : MethodName := ⟨RX1, "openness", "()I"⟩
abbrev cX1_keepSpans : ByteArray := prog_3_method_16_code
def yX1_keepSpans : MethodName := ⟨RX1, "keepSpans", "()V"⟩
abbrev cX1_firstUnlikeKept : ByteArray := prog_3_method_17_code
def yX1_firstUnlikeKept : MethodName := ⟨RX1, "firstUnlikeKept", "()I"⟩
def RX2 : String := "ReignLadders$Page"
def TX2 : u_T := fun k => match k with
  | 0 => ("ReignLadders$Page", "letters", "[I", true)
  | 1 => ("ReignLadders$Page", "size", "I", false)
  | 2 => ("ReignLadders$Page", "expected", "I", false)
  | _ => ("ReignLadders$Page", "depth", "I", false)
def tyX2 : Nat → FieldType := fun k => match k with
  | 0 => .array .int
  | 1 => .int
  | 2 => .int
  | _ => .int
abbrev wsX20 : List Cond := u_ws RX2 TX2 4
theorem nmX2 : ∀ a, a < 4 → ∀ b, b < 4 → a ≠ b → (TX2 a).2.1 ≠ (TX2 b).2.1 := by decide +kernel
theorem tyX2_ok : ∀ k, k < 4 → parseFieldDescriptor (TX2 k).2.2.1 = some (tyX2 k) := by decide +kernel
abbrev cX2_init : ByteArray := prog_4_method_1_code
def yX2_init : MethodName := ⟨RX2, "<init>", "()V"⟩
abbrev cX2_size : ByteArray := prog_4_method_2_code
def yX2_size : MethodName := ⟨RX2, "size", "()I"⟩
abbrev cX2_letterAt : ByteArray := prog_4_method_3_code
def yX2_letterAt : MethodName := ⟨RX2, "letterAt", "(I)I"⟩
abbrev cX2_byteOf : ByteArray := prog_4_method_4_code
def yX2_byteOf : MethodName := ⟨RX2, "byteOf", "(JI)I"⟩
abbrev cX2_lettersIn : ByteArray := prog_4_method_5_code
def yX2_lettersIn : MethodName := ⟨RX2, "lettersIn", "(J)I"⟩
abbrev cX2_write : ByteArray := prog_4_method_6_code
def yX2_write : MethodName := ⟨RX2, "write", "(JI)I"⟩
abbrev cX2_wipe : ByteArray := prog_4_method_7_code
def yX2_wipe : MethodName := ⟨RX2, "wipe", "()I"⟩
abbrev cX2_firstFault : ByteArray := prog_4_method_8_code
def yX2_firstFault : MethodName := ⟨RX2, "firstFault", "()I"⟩
abbrev cX2_isText : ByteArray := prog_4_method_9_code
def yX2_isText : MethodName := ⟨RX2, "isText", "()Z"⟩
abbrev cX2_after : ByteArray := prog_4_method_10_code
def yX2_after : MethodName := ⟨RX2, "after", "(I)I"⟩
abbrev cX2_afterFactorBegins : ByteArray := prog_4_method_11_code
def yX2_afterFactorBegins : MethodName := ⟨RX2, "afterFactorBegins", "(I)I"⟩
abbrev cX2_afterFactorEnds : ByteArray := prog_4_method_12_code
def yX2_afterFactorEnds : MethodName := ⟨RX2, "afterFactorEnds", "(I)I"⟩
abbrev cX2_isDigit : ByteArray := prog_4_method_13_code
def yX2_isDigit : MethodName := ⟨RX2, "isDigit", "(I)Z"⟩
abbrev cX2_digestOn : ByteArray := prog_4_method_14_code
def yX2_digestOn : MethodName := ⟨RX2, "digestOn", "(J)J"⟩
def RX3 : String := "ReignLadders$Reigns"
def TX3 : u_T := fun k => match k with
  | 0 => ("ReignLadders$Reigns", "facts", "[I", true)
  | 1 => ("ReignLadders$Reigns", "told", "[I", true)
  | 2 => ("ReignLadders$Reigns", "lastOfLand", "[I", true)
  | 3 => ("ReignLadders$Reigns", "size", "I", false)
  | _ => ("ReignLadders$Reigns", "misread", "I", false)
def tyX3 : Nat → FieldType := fun k => match k with
  | 0 => .array .int
  | 1 => .array .int
  | 2 => .array .int
  | 3 => .int
  | _ => .int
abbrev wsX30 : List Cond := u_ws RX3 TX3 5
theorem nmX3 : ∀ a, a < 5 → ∀ b, b < 5 → a ≠ b → (TX3 a).2.1 ≠ (TX3 b).2.1 := by decide +kernel
theorem tyX3_ok : ∀ k, k < 5 → parseFieldDescriptor (TX3 k).2.2.1 = some (tyX3 k) := by decide +kernel
abbrev cX3_init : ByteArray := prog_5_method_1_code
def yX3_init : MethodName := ⟨RX3, "<init>", "()V"⟩
abbrev cX3_size : ByteArray := prog_5_method_2_code
def yX3_size : MethodName := ⟨RX3, "size", "()I"⟩
abbrev cX3_has : ByteArray := prog_5_method_3_code
def yX3_has : MethodName := ⟨RX3, "has", "(I)Z"⟩
abbrev cX3_fact : ByteArray := prog_5_method_4_code
def yX3_fact : MethodName := ⟨RX3, "fact", "(II)I"⟩
abbrev cX3_lastOf : ByteArray := prog_5_method_5_code
def yX3_lastOf : MethodName := ⟨RX3, "lastOf", "(I)I"⟩
abbrev cX3_isOf : ByteArray := prog_5_method_6_code
def yX3_isOf : MethodName := ⟨RX3, "isOf", "(II)Z"⟩
abbrev cX3_hasRoomFor : ByteArray := prog_5_method_7_code
def yX3_hasRoomFor : MethodName := ⟨RX3, "hasRoomFor", "(I)Z"⟩
abbrev cX3_add : ByteArray := prog_5_method_8_code
def yX3_add : MethodName := ⟨RX3, "add", "(IIIII)I"⟩
abbrev cX3_renumber : ByteArray := prog_5_method_9_code
def yX3_renumber : MethodName := ⟨RX3, "renumber", "(II)I"⟩
abbrev cX3_retell : ByteArray := prog_5_method_10_code
def yX3_retell : MethodName := ⟨RX3, "retell", "(II)I"⟩
abbrev cX3_toldYear : ByteArray := prog_5_method_11_code
def yX3_toldYear : MethodName := ⟨RX3, "toldYear", "(I)I"⟩
abbrev cX3_isKnown : ByteArray := prog_5_method_12_code
def yX3_isKnown : MethodName := ⟨RX3, "isKnown", "(II)Z"⟩
abbrev cX3_knownBits : ByteArray := prog_5_method_13_code
def yX3_knownBits : MethodName := ⟨RX3, "knownBits", "(I)I"⟩
abbrev cX3_overlap : ByteArray := prog_5_method_14_code
def yX3_overlap : MethodName := ⟨RX3, "overlap", "(I)I"⟩
abbrev cX3_counted : ByteArray := prog_5_method_15_code
def yX3_counted : MethodName := ⟨RX3, "counted", "(II)I"⟩
abbrev cX3_otherReading : ByteArray := prog_5_method_16_code
def yX3_otherReading : MethodName := ⟨RX3, "otherReading", "(II)I"⟩
abbrev cX3_shortest : ByteArray := prog_5_method_17_code
def yX3_shortest : MethodName := ⟨RX3, "shortest", "(II)I"⟩
abbrev cX3_longest : ByteArray := prog_5_method_18_code
def yX3_longest : MethodName := ⟨RX3, "longest", "(II)I"⟩
abbrev cX3_isMisread : ByteArray := prog_5_method_19_code
def yX3_isMisread : MethodName := ⟨RX3, "isMisread", "(I)Z"⟩
abbrev cX3_lengths : ByteArray := prog_5_method_20_code
def yX3_lengths : MethodName := ⟨RX3, "lengths", "(II)I"⟩
abbrev cX3_isToldBehind : ByteArray := prog_5_method_21_code
def yX3_isToldBehind : MethodName := ⟨RX3, "isToldBehind", "(III)Z"⟩
abbrev cX3_spreadInLands : ByteArray := prog_5_method_22_code
def yX3_spreadInLands : MethodName := ⟨RX3, "spreadInLands", "(II)I"⟩
abbrev cX3_digestOn : ByteArray := prog_5_method_23_code
def yX3_digestOn : MethodName := ⟨RX3, "digestOn", "(J)J"⟩
def RX4 : String := "ReignLadders$School"
def TX4 : u_T := fun k => match k with
  | 0 => ("ReignLadders$School", "letters", "[I", true)
  | 1 => ("ReignLadders$School", "lengths", "[I", true)
  | _ => ("ReignLadders$School", "size", "I", false)
def tyX4 : Nat → FieldType := fun k => match k with
  | 0 => .array .int
  | 1 => .array .int
  | _ => .int
abbrev wsX40 : List Cond := u_ws RX4 TX4 3
theorem nmX4 : ∀ a, a < 3 → ∀ b, b < 3 → a ≠ b → (TX4 a).2.1 ≠ (TX4 b).2.1 := by decide +kernel
theorem tyX4_ok : ∀ k, k < 3 → parseFieldDescriptor (TX4 k).2.2.1 = some (tyX4 k) := by decide +kernel
abbrev cX4_init : ByteArray := prog_6_method_1_code
def yX4_init : MethodName := ⟨RX4, "<init>", "()V"⟩
abbrev cX4_size : ByteArray := prog_6_method_2_code
def yX4_size : MethodName := ⟨RX4, "size", "()I"⟩
abbrev cX4_isFull : ByteArray := prog_6_method_3_code
def yX4_isFull : MethodName := ⟨RX4, "isFull", "()Z"⟩
abbrev cX4_learn : ByteArray := prog_6_method_4_code
def yX4_learn : MethodName := ⟨RX4, "learn", "(LReignLadders$Page;)I"⟩
abbrev cX4_unlearn : ByteArray := prog_6_method_5_code
def yX4_unlearn : MethodName := ⟨RX4, "unlearn", "()I"⟩
abbrev cX4_says : ByteArray := prog_6_method_6_code
def yX4_says : MethodName := ⟨RX4, "says", "(ILReignLadders$Subject;I)I"⟩
def RX5 : String := "ReignLadders$Subject"
def TX5 : u_T := fun k => match k with
  | 0 => ("ReignLadders$Subject", "land", "I", false)
  | 1 => ("ReignLadders$Subject", "kind", "I", false)
  | 2 => ("ReignLadders$Subject", "number", "I", false)
  | 3 => ("ReignLadders$Subject", "own", "I", false)
  | 4 => ("ReignLadders$Subject", "anyTerm", "J", false)
  | 5 => ("ReignLadders$Subject", "allFactors", "J", false)
  | _ => ("ReignLadders$Subject", "flipped", "J", false)
def tyX5 : Nat → FieldType := fun k => match k with
  | 0 => .int
  | 1 => .int
  | 2 => .int
  | 3 => .int
  | 4 => .long
  | 5 => .long
  | _ => .long
abbrev wsX50 : List Cond := u_ws RX5 TX5 7
theorem nmX5 : ∀ a, a < 7 → ∀ b, b < 7 → a ≠ b → (TX5 a).2.1 ≠ (TX5 b).2.1 := by decide +kernel
theorem tyX5_ok : ∀ k, k < 7 → parseFieldDescriptor (TX5 k).2.2.1 = some (tyX5 k) := by decide +kernel
abbrev cX5_init : ByteArray := prog_7_method_1_code
def yX5_init : MethodName := ⟨RX5, "<init>", "()V"⟩
abbrev cX5_set : ByteArray := prog_7_method_2_code
def yX5_set : MethodName := ⟨RX5, "set", "(IIII)V"⟩
abbrev cX5_meets : ByteArray := prog_7_method_3_code
def yX5_meets : MethodName := ⟨RX5, "meets", "([III)Z"⟩
abbrev cX5_begin : ByteArray := prog_7_method_4_code
def yX5_begin : MethodName := ⟨RX5, "begin", "()V"⟩
abbrev cX5_end : ByteArray := prog_7_method_5_code
def yX5_end : MethodName := ⟨RX5, "end", "()J"⟩
abbrev cX5_take : ByteArray := prog_7_method_6_code
def yX5_take : MethodName := ⟨RX5, "take", "(J)V"⟩
abbrev cX5_valueOf : ByteArray := prog_7_method_7_code
def yX5_valueOf : MethodName := ⟨RX5, "valueOf", "(I)I"⟩
abbrev cX5_numberOf : ByteArray := prog_7_method_8_code
def yX5_numberOf : MethodName := ⟨RX5, "numberOf", "(II)I"⟩
abbrev cX5_compared : ByteArray := prog_7_method_9_code
def yX5_compared : MethodName := ⟨RX5, "compared", "(III)J"⟩
def RX6 : String := "ReignLadders$Ties"
def TX6 : u_T := fun k => match k with
  | 0 => ("ReignLadders$Ties", "facts", "[I", true)
  | 1 => ("ReignLadders$Ties", "years", "[I", true)
  | 2 => ("ReignLadders$Ties", "most", "I", true)
  | 3 => ("ReignLadders$Ties", "size", "I", false)
  | _ => ("ReignLadders$Ties", "skies", "I", false)
def tyX6 : Nat → FieldType := fun k => match k with
  | 0 => .array .int
  | 1 => .array .int
  | 2 => .int
  | 3 => .int
  | _ => .int
abbrev wsX60 : List Cond := u_ws RX6 TX6 5
theorem nmX6 : ∀ a, a < 5 → ∀ b, b < 5 → a ≠ b → (TX6 a).2.1 ≠ (TX6 b).2.1 := by decide +kernel
theorem tyX6_ok : ∀ k, k < 5 → parseFieldDescriptor (TX6 k).2.2.1 = some (tyX6 k) := by decide +kernel
abbrev cX6_init : ByteArray := prog_8_method_1_code
def yX6_init : MethodName := ⟨RX6, "<init>", "(I)V"⟩
abbrev cX6_size : ByteArray := prog_8_method_2_code
def yX6_size : MethodName := ⟨RX6, "size", "()I"⟩
abbrev cX6_has : ByteArray := prog_8_method_3_code
def yX6_has : MethodName := ⟨RX6, "has", "(I)Z"⟩
abbrev cX6_isFull : ByteArray := prog_8_method_4_code
def yX6_isFull : MethodName := ⟨RX6, "isFull", "()Z"⟩
abbrev cX6_areSkiesFull : ByteArray := prog_8_method_5_code
def yX6_areSkiesFull : MethodName := ⟨RX6, "areSkiesFull", "()Z"⟩
abbrev cX6_fact : ByteArray := prog_8_method_6_code
def yX6_fact : MethodName := ⟨RX6, "fact", "(II)I"⟩
abbrev cX6_year : ByteArray := prog_8_method_7_code
def yX6_year : MethodName := ⟨RX6, "year", "(II)I"⟩
abbrev cX6_add : ByteArray := prog_8_method_8_code
def yX6_add : MethodName := ⟨RX6, "add", "(IIIIIII)I"⟩
abbrev cX6_addSky : ByteArray := prog_8_method_9_code
def yX6_addSky : MethodName := ⟨RX6, "addSky", "(IIIIII)I"⟩
abbrev cX6_addRing : ByteArray := prog_8_method_10_code
def yX6_addRing : MethodName := ⟨RX6, "addRing", "(IIII)I"⟩
abbrev cX6_drop : ByteArray := prog_8_method_11_code
def yX6_drop : MethodName := ⟨RX6, "drop", "()I"⟩
abbrev cX6_shift : ByteArray := prog_8_method_12_code
def yX6_shift : MethodName := ⟨RX6, "shift", "(I)I"⟩
abbrev cX6_beginning : ByteArray := prog_8_method_13_code
def yX6_beginning : MethodName := ⟨RX6, "beginning", "(II)I"⟩
abbrev cX6_isKnown : ByteArray := prog_8_method_14_code
def yX6_isKnown : MethodName := ⟨RX6, "isKnown", "(IILReignLadders$Reigns;)Z"⟩
abbrev cX6_holdsAsTold : ByteArray := prog_8_method_15_code
def yX6_holdsAsTold : MethodName := ⟨RX6, "holdsAsTold", "(ILReignLadders$Reigns;)Z"⟩
abbrev cX6_spread : ByteArray := prog_8_method_16_code
def yX6_spread : MethodName := ⟨RX6, "spread", "(II)I"⟩
abbrev cX6_digestOn : ByteArray := prog_8_method_17_code
def yX6_digestOn : MethodName := ⟨RX6, "digestOn", "(J)J"⟩
abbrev cX6_digestPairsOn : ByteArray := prog_8_method_18_code
def yX6_digestPairsOn : MethodName := ⟨RX6, "digestPairsOn", "(J)J"⟩
def RX7 : String := "ReignLadders"
def TX7 : u_T := fun k => match k with
  | 0 => ("ReignLadders", "reigns", "LReignLadders$Reigns;", true)
  | 1 => ("ReignLadders", "ties", "LReignLadders$Ties;", true)
  | 2 => ("ReignLadders", "wishes", "LReignLadders$Ties;", true)
  | 3 => ("ReignLadders", "firstSchool", "LReignLadders$School;", true)
  | 4 => ("ReignLadders", "secondSchool", "LReignLadders$School;", true)
  | 5 => ("ReignLadders", "subject", "LReignLadders$Subject;", true)
  | 6 => ("ReignLadders", "page", "LReignLadders$Page;", true)
  | 7 => ("ReignLadders", "ladders", "LReignLadders$Ladders;", true)
  | _ => ("ReignLadders", "doubts", "I", false)
def tyX7 : Nat → FieldType := fun k => match k with
  | 0 => .object "ReignLadders$Reigns"
  | 1 => .object "ReignLadders$Ties"
  | 2 => .object "ReignLadders$Ties"
  | 3 => .object "ReignLadders$School"
  | 4 => .object "ReignLadders$School"
  | 5 => .object "ReignLadders$Subject"
  | 6 => .object "ReignLadders$Page"
  | 7 => .object "ReignLadders$Ladders"
  | _ => .int
abbrev wsX70 : List Cond := u_ws RX7 TX7 9
theorem nmX7 : ∀ a, a < 9 → ∀ b, b < 9 → a ≠ b → (TX7 a).2.1 ≠ (TX7 b).2.1 := by decide +kernel
theorem tyX7_ok : ∀ k, k < 9 → parseFieldDescriptor (TX7 k).2.2.1 = some (tyX7 k) := by decide +kernel
abbrev cX7_init : ByteArray := prog_1_method_1_code
def yX7_init : MethodName := ⟨RX7, "<init>", "()V"⟩
abbrev cX7_reign : ByteArray := prog_1_method_2_code
def yX7_reign : MethodName := ⟨RX7, "reign", "(IIIII)I"⟩
abbrev cX7_about : ByteArray := prog_1_method_3_code
def yX7_about : MethodName := ⟨RX7, "about", "(II)I"⟩
abbrev cX7_as : ByteArray := prog_1_method_4_code
def yX7_as : MethodName := ⟨RX7, "as", "(II)I"⟩
abbrev cX7_lasts : ByteArray := prog_1_method_5_code
def yX7_lasts : MethodName := ⟨RX7, "lasts", "(III)I"⟩
abbrev cX7_number : ByteArray := prog_1_method_6_code
def yX7_number : MethodName := ⟨RX7, "number", "(II)I"⟩
abbrev cX7_tie : ByteArray := prog_1_method_7_code
def yX7_tie : MethodName := ⟨RX7, "tie", "(IIIIII)I"⟩
abbrev cX7_sky : ByteArray := prog_1_method_8_code
def yX7_sky : MethodName := ⟨RX7, "sky", "(IIIIII)I"⟩
abbrev cX7_ring : ByteArray := prog_1_method_9_code
def yX7_ring : MethodName := ⟨RX7, "ring", "(IIII)I"⟩
abbrev cX7_letter : ByteArray := prog_1_method_10_code
def yX7_letter : MethodName := ⟨RX7, "letter", "(IIIII)I"⟩
abbrev cX7_tied : ByteArray := prog_1_method_11_code
def yX7_tied : MethodName := ⟨RX7, "tied", "(II)I"⟩
abbrev cX7_undo : ByteArray := prog_1_method_12_code
def yX7_undo : MethodName := ⟨RX7, "undo", "()I"⟩
abbrev cX7_letters : ByteArray := prog_1_method_13_code
def yX7_letters : MethodName := ⟨RX7, "letters", "(J)I"⟩
abbrev cX7_blank : ByteArray := prog_1_method_14_code
def yX7_blank : MethodName := ⟨RX7, "blank", "()I"⟩
abbrev cX7_fault : ByteArray := prog_1_method_15_code
def yX7_fault : MethodName := ⟨RX7, "fault", "()I"⟩
abbrev cX7_text : ByteArray := prog_1_method_16_code
def yX7_text : MethodName := ⟨RX7, "text", "(I)I"⟩
abbrev cX7_strike : ByteArray := prog_1_method_17_code
def yX7_strike : MethodName := ⟨RX7, "strike", "(I)I"⟩
abbrev cX7_counts : ByteArray := prog_1_method_18_code
def yX7_counts : MethodName := ⟨RX7, "counts", "(II)I"⟩
abbrev cX7_believes : ByteArray := prog_1_method_19_code
def yX7_believes : MethodName := ⟨RX7, "believes", "(II)I"⟩
abbrev cX7_can : ByteArray := prog_1_method_20_code
def yX7_can : MethodName := ⟨RX7, "can", "(II)I"⟩
abbrev cX7_span : ByteArray := prog_1_method_21_code
def yX7_span : MethodName := ⟨RX7, "span", "(IIII)I"⟩
abbrev cX7_held : ByteArray := prog_1_method_22_code
def yX7_held : MethodName := ⟨RX7, "held", "(IIII)I"⟩
abbrev cX7_doubt : ByteArray := prog_1_method_23_code
def yX7_doubt : MethodName := ⟨RX7, "doubt", "(III)I"⟩
abbrev cX7_floats : ByteArray := prog_1_method_24_code
def yX7_floats : MethodName := ⟨RX7, "floats", "(II)I"⟩
abbrev cX7_open : ByteArray := prog_1_method_25_code
def yX7_open : MethodName := ⟨RX7, "open", "(II)I"⟩
abbrev cX7_part : ByteArray := prog_1_method_26_code
def yX7_part : MethodName := ⟨RX7, "part", "()I"⟩
abbrev cX7_wish : ByteArray := prog_1_method_27_code
def yX7_wish : MethodName := ⟨RX7, "wish", "(IIIII)I"⟩
abbrev cX7_closes : ByteArray := prog_1_method_28_code
def yX7_closes : MethodName := ⟨RX7, "closes", "(III)I"⟩
abbrev cX7_best : ByteArray := prog_1_method_29_code
def yX7_best : MethodName := ⟨RX7, "best", "(II)I"⟩
abbrev cX7_tell : ByteArray := prog_1_method_30_code
def yX7_tell : MethodName := ⟨RX7, "tell", "(II)I"⟩
abbrev cX7_judge : ByteArray := prog_1_method_31_code
def yX7_judge : MethodName := ⟨RX7, "judge", "(I)I"⟩
abbrev cX7_count : ByteArray := prog_1_method_32_code
def yX7_count : MethodName := ⟨RX7, "count", "(I)I"⟩
abbrev cX7_digest : ByteArray := prog_1_method_33_code
def yX7_digest : MethodName := ⟨RX7, "digest", "()J"⟩
abbrev cX7_sayingsDigest : ByteArray := prog_1_method_34_code
def yX7_sayingsDigest : MethodName := ⟨RX7, "sayingsDigest", "(JI)J"⟩
abbrev cX7_within : ByteArray := prog_1_method_35_code
def yX7_within : MethodName := ⟨RX7, "within", "(III)Z"⟩
abbrev cX7_isYear : ByteArray := prog_1_method_36_code
def yX7_isYear : MethodName := ⟨RX7, "isYear", "(I)Z"⟩
abbrev cX7_arePlaces : ByteArray := prog_1_method_37_code
def yX7_arePlaces : MethodName := ⟨RX7, "arePlaces", "(II)Z"⟩
abbrev cX7_arePair : ByteArray := prog_1_method_38_code
def yX7_arePair : MethodName := ⟨RX7, "arePair", "(II)Z"⟩
abbrev cX7_isSchool : ByteArray := prog_1_method_39_code
def yX7_isSchool : MethodName := ⟨RX7, "isSchool", "(I)Z"⟩
abbrev cX7_refusal : ByteArray := prog_1_method_40_code
def yX7_refusal : MethodName := ⟨RX7, "refusal", "(II)I"⟩
abbrev cX7_schoolOf : ByteArray := prog_1_method_41_code
def yX7_schoolOf : MethodName := ⟨RX7, "schoolOf", "(I)LReignLadders$School;"⟩
abbrev cX7_countFor : ByteArray := prog_1_method_42_code
def yX7_countFor : MethodName := ⟨RX7, "countFor", "(II)I"⟩
abbrev cX7_beliefFor : ByteArray := prog_1_method_43_code
def yX7_beliefFor : MethodName := ⟨RX7, "beliefFor", "(II)I"⟩
abbrev cX7_believedBy : ByteArray := prog_1_method_44_code
def yX7_believedBy : MethodName := ⟨RX7, "believedBy", "(II)I"⟩
abbrev cX7_lay : ByteArray := prog_1_method_45_code
def yX7_lay : MethodName := ⟨RX7, "lay", "(II)I"⟩
abbrev cX7_holders : ByteArray := prog_1_method_46_code
def yX7_holders : MethodName := ⟨RX7, "holders", "(III)I"⟩
abbrev cX7_doubted : ByteArray := prog_1_method_47_code
def yX7_doubted : MethodName := ⟨RX7, "doubted", "(II)I"⟩
abbrev cX7_afloat : ByteArray := prog_1_method_48_code
def yX7_afloat : MethodName := ⟨RX7, "afloat", "(II)I"⟩
abbrev cX7_gain : ByteArray := prog_1_method_49_code
def yX7_gain : MethodName := ⟨RX7, "gain", "(IIII)I"⟩
abbrev cX7_at : ByteArray := prog_1_method_50_code
def yX7_at : MethodName := ⟨RX7, "at", "([II)I"⟩
abbrev cX7_put : ByteArray := prog_1_method_51_code
def yX7_put : MethodName := ⟨RX7, "put", "([III)V"⟩
def RX8 : String := "ReignLaddersModel"
def TX8 : u_T := fun k => match k with
  | 0 => ("ReignLaddersModel", "reigns", "I", false)
  | 1 => ("ReignLaddersModel", "landOf", "[I", true)
  | 2 => ("ReignLaddersModel", "kindOf", "[I", true)
  | 3 => ("ReignLaddersModel", "numberOf", "[I", true)
  | 4 => ("ReignLaddersModel", "otherOf", "[I", true)
  | 5 => ("ReignLaddersModel", "editionOf", "[I", true)
  | 6 => ("ReignLaddersModel", "aheadOf", "[I", true)
  | 7 => ("ReignLaddersModel", "toldYear", "[I", true)
  | 8 => ("ReignLaddersModel", "ties", "I", false)
  | 9 => ("ReignLaddersModel", "tieOf", "[I", true)
  | 10 => ("ReignLaddersModel", "yearOf", "[I", true)
  | 11 => ("ReignLaddersModel", "pageLength", "I", false)
  | 12 => ("ReignLaddersModel", "page", "[B", true)
  | 13 => ("ReignLaddersModel", "texts", "[I", true)
  | 14 => ("ReignLaddersModel", "textOf", "[B", true)
  | 15 => ("ReignLaddersModel", "textSize", "[I", true)
  | 16 => ("ReignLaddersModel", "wishes", "I", false)
  | 17 => ("ReignLaddersModel", "wishOf", "[I", true)
  | 18 => ("ReignLaddersModel", "doubtDone", "I", false)
  | 19 => ("ReignLaddersModel", "faultAt", "I", false)
  | 20 => ("ReignLaddersModel", "isWhole", "Z", false)
  | 21 => ("ReignLaddersModel", "of", "[I", true)
  | 22 => ("ReignLaddersModel", "anyTerm", "[Z", true)
  | 23 => ("ReignLaddersModel", "allFactors", "[Z", true)
  | 24 => ("ReignLaddersModel", "isDenied", "[Z", true)
  | 25 => ("ReignLaddersModel", "deep", "I", false)
  | 26 => ("ReignLaddersModel", "most", "[I", true)
  | 27 => ("ReignLaddersModel", "counted", "[I", true)
  | 28 => ("ReignLaddersModel", "low", "[I", true)
  | 29 => ("ReignLaddersModel", "high", "[I", true)
  | 30 => ("ReignLaddersModel", "isFound", "Z", false)
  | 31 => ("ReignLaddersModel", "firstLow", "[I", true)
  | 32 => ("ReignLaddersModel", "firstHigh", "[I", true)
  | _ => ("ReignLaddersModel", "h", "J", false)
def tyX8 : Nat → FieldType := fun k => match k with
  | 0 => .int
  | 1 => .array .int
  | 2 => .array .int
  | 3 => .array .int
  | 4 => .array .int
  | 5 => .array .int
  | 6 => .array .int
  | 7 => .array .int
  | 8 => .int
  | 9 => .array .int
  | 10 => .array .int
  | 11 => .int
  | 12 => .array .byte
  | 13 => .array .int
  | 14 => .array .byte
  | 15 => .array .int
  | 16 => .int
  | 17 => .array .int
  | 18 => .int
  | 19 => .int
  | 20 => .boolean
  | 21 => .array .int
  | 22 => .array .boolean
  | 23 => .array .boolean
  | 24 => .array .boolean
  | 25 => .int
  | 26 => .array .int
  | 27 => .array .int
  | 28 => .array .int
  | 29 => .array .int
  | 30 => .boolean
  | 31 => .array .int
  | 32 => .array .int
  | _ => .long
abbrev wsX80 : List Cond := u_ws RX8 TX8 34
theorem nmX8 : ∀ a, a < 34 → ∀ b, b < 34 → a ≠ b → (TX8 a).2.1 ≠ (TX8 b).2.1 := by decide +kernel
theorem tyX8_ok : ∀ k, k < 34 → parseFieldDescriptor (TX8 k).2.2.1 = some (tyX8 k) := by decide +kernel
abbrev cX8_init : ByteArray := prog_10_method_1_code
def yX8_init : MethodName := ⟨RX8, "<init>", "()V"⟩
abbrev cX8_lies : ByteArray := prog_10_method_3_code
def yX8_lies : MethodName := ⟨RX8, "lies", "(III)Z"⟩
abbrev cX8_isReign : ByteArray := prog_10_method_4_code
def yX8_isReign : MethodName := ⟨RX8, "isReign", "(I)Z"⟩
abbrev cX8_isEdition : ByteArray := prog_10_method_5_code
def yX8_isEdition : MethodName := ⟨RX8, "isEdition", "(I)Z"⟩
abbrev cX8_isYear : ByteArray := prog_10_method_6_code
def yX8_isYear : MethodName := ⟨RX8, "isYear", "(I)Z"⟩
abbrev cX8_lastOf : ByteArray := prog_10_method_7_code
def yX8_lastOf : MethodName := ⟨RX8, "lastOf", "(I)I"⟩
abbrev cX8_isMisread : ByteArray := prog_10_method_8_code
def yX8_isMisread : MethodName := ⟨RX8, "isMisread", "(I)Z"⟩
abbrev cX8_reign : ByteArray := prog_10_method_9_code
def yX8_reign : MethodName := ⟨RX8, "reign", "(IIIII)I"⟩
abbrev cX8_aboutOf : ByteArray := prog_10_method_10_code
def yX8_aboutOf : MethodName := ⟨RX8, "aboutOf", "(II)I"⟩
abbrev cX8_about : ByteArray := prog_10_method_11_code
def yX8_about : MethodName := ⟨RX8, "about", "(II)I"⟩
abbrev cX8_as : ByteArray := prog_10_method_12_code
def yX8_as : MethodName := ⟨RX8, "as", "(II)I"⟩
abbrev cX8_otherLength : ByteArray := prog_10_method_13_code
def yX8_otherLength : MethodName := ⟨RX8, "otherLength", "(II)I"⟩
abbrev cX8_leastOf : ByteArray := prog_10_method_14_code
def yX8_leastOf : MethodName := ⟨RX8, "leastOf", "(II)I"⟩
abbrev cX8_mostOf : ByteArray := prog_10_method_15_code
def yX8_mostOf : MethodName := ⟨RX8, "mostOf", "(II)I"⟩
abbrev cX8_lengthsOf : ByteArray := prog_10_method_16_code
def yX8_lengthsOf : MethodName := ⟨RX8, "lengthsOf", "(II)I"⟩
abbrev cX8_lasts : ByteArray := prog_10_method_17_code
def yX8_lasts : MethodName := ⟨RX8, "lasts", "(III)I"⟩
abbrev cX8_number : ByteArray := prog_10_method_18_code
def yX8_number : MethodName := ⟨RX8, "number", "(II)I"⟩
abbrev cX8_come : ByteArray := prog_10_method_19_code
def yX8_come : MethodName := ⟨RX8, "come", "(IIIIIII)I"⟩
abbrev cX8_isXth : ByteArray := prog_10_method_20_code
def yX8_isXth : MethodName := ⟨RX8, "isXth", "(I)Z"⟩
abbrev cX8_tie : ByteArray := prog_10_method_21_code
def yX8_tie : MethodName := ⟨RX8, "tie", "(IIIIII)I"⟩
abbrev cX8_sky : ByteArray := prog_10_method_22_code
def yX8_sky : MethodName := ⟨RX8, "sky", "(IIIIII)I"⟩
abbrev cX8_ring : ByteArray := prog_10_method_23_code
def yX8_ring : MethodName := ⟨RX8, "ring", "(IIII)I"⟩
abbrev cX8_letter : ByteArray := prog_10_method_24_code
def yX8_letter : MethodName := ⟨RX8, "letter", "(IIIII)I"⟩
abbrev cX8_isTie : ByteArray := prog_10_method_25_code
def yX8_isTie : MethodName := ⟨RX8, "isTie", "(I)Z"⟩
abbrev cX8_tied : ByteArray := prog_10_method_26_code
def yX8_tied : MethodName := ⟨RX8, "tied", "(II)I"⟩
abbrev cX8_undo : ByteArray := prog_10_method_27_code
def yX8_undo : MethodName := ⟨RX8, "undo", "()I"⟩
abbrev cX8_letters : ByteArray := prog_10_method_28_code
def yX8_letters : MethodName := ⟨RX8, "letters", "(J)I"⟩
abbrev cX8_blank : ByteArray := prog_10_method_29_code
def yX8_blank : MethodName := ⟨RX8, "blank", "()I"⟩
abbrev cX8_isName : ByteArray := prog_10_method_30_code
def yX8_isName : MethodName := ⟨RX8, "isName", "(I)Z"⟩
abbrev cX8_next : ByteArray := prog_10_method_31_code
def yX8_next : MethodName := ⟨RX8, "next", "(III)I"⟩
abbrev cX8_readText : ByteArray := prog_10_method_32_code
def yX8_readText : MethodName := ⟨RX8, "readText", "()V"⟩
abbrev cX8_fault : ByteArray := prog_10_method_33_code
def yX8_fault : MethodName := ⟨RX8, "fault", "()I"⟩
abbrev cX8_isSchool : ByteArray := prog_10_method_34_code
def yX8_isSchool : MethodName := ⟨RX8, "isSchool", "(I)Z"⟩
abbrev cX8_text : ByteArray := prog_10_method_35_code
def yX8_text : MethodName := ⟨RX8, "text", "(I)I"⟩
abbrev cX8_strike : ByteArray := prog_10_method_36_code
def yX8_strike : MethodName := ⟨RX8, "strike", "(I)I"⟩
abbrev cX8_openGroup : ByteArray := prog_10_method_37_code
def yX8_openGroup : MethodName := ⟨RX8, "openGroup", "()V"⟩
abbrev cX8_factor : ByteArray := prog_10_method_38_code
def yX8_factor : MethodName := ⟨RX8, "factor", "(Z)V"⟩
abbrev cX8_placeOf : ByteArray := prog_10_method_39_code
def yX8_placeOf : MethodName := ⟨RX8, "placeOf", "(I)I"⟩
abbrev cX8_holds : ByteArray := prog_10_method_40_code
def yX8_holds : MethodName := ⟨RX8, "holds", "(I)Z"⟩
abbrev cX8_saysOf : ByteArray := prog_10_method_41_code
def yX8_saysOf : MethodName := ⟨RX8, "saysOf", "(III)I"⟩
abbrev cX8_countsOf : ByteArray := prog_10_method_42_code
def yX8_countsOf : MethodName := ⟨RX8, "countsOf", "(II)I"⟩
abbrev cX8_believesOf : ByteArray := prog_10_method_43_code
def yX8_believesOf : MethodName := ⟨RX8, "believesOf", "(II)I"⟩
abbrev cX8_counts : ByteArray := prog_10_method_44_code
def yX8_counts : MethodName := ⟨RX8, "counts", "(II)I"⟩
abbrev cX8_believes : ByteArray := prog_10_method_45_code
def yX8_believes : MethodName := ⟨RX8, "believes", "(II)I"⟩
abbrev cX8_isKnown : ByteArray := prog_10_method_46_code
def yX8_isKnown : MethodName := ⟨RX8, "isKnown", "(II)Z"⟩
abbrev cX8_tiesOf : ByteArray := prog_10_method_47_code
def yX8_tiesOf : MethodName := ⟨RX8, "tiesOf", "(II)I"⟩
abbrev cX8_bind : ByteArray := prog_10_method_48_code
def yX8_bind : MethodName := ⟨RX8, "bind", "(IIII)V"⟩
abbrev cX8_closeWays : ByteArray := prog_10_method_49_code
def yX8_closeWays : MethodName := ⟨RX8, "closeWays", "()Z"⟩
abbrev cX8_layChoice : ByteArray := prog_10_method_50_code
def yX8_layChoice : MethodName := ⟨RX8, "layChoice", "(II)Z"⟩
abbrev cX8_misreadAhead : ByteArray := prog_10_method_51_code
def yX8_misreadAhead : MethodName := ⟨RX8, "misreadAhead", "(I)I"⟩
abbrev cX8_layTie : ByteArray := prog_10_method_52_code
def yX8_layTie : MethodName := ⟨RX8, "layTie", "(II)V"⟩
abbrev cX8_solve : ByteArray := prog_10_method_53_code
def yX8_solve : MethodName := ⟨RX8, "solve", "(IIII)V"⟩
abbrev cX8_take : ByteArray := prog_10_method_54_code
def yX8_take : MethodName := ⟨RX8, "take", "(I)V"⟩
abbrev cX8_can : ByteArray := prog_10_method_55_code
def yX8_can : MethodName := ⟨RX8, "can", "(II)I"⟩
abbrev cX8_span : ByteArray := prog_10_method_56_code
def yX8_span : MethodName := ⟨RX8, "span", "(IIII)I"⟩
abbrev cX8_held : ByteArray := prog_10_method_57_code
def yX8_held : MethodName := ⟨RX8, "held", "(IIII)I"⟩
abbrev cX8_ones : ByteArray := prog_10_method_58_code
def yX8_ones : MethodName := ⟨RX8, "ones", "(I)I"⟩
abbrev cX8_doubt : ByteArray := prog_10_method_59_code
def yX8_doubt : MethodName := ⟨RX8, "doubt", "(III)I"⟩
abbrev cX8_floatsOf : ByteArray := prog_10_method_60_code
def yX8_floatsOf : MethodName := ⟨RX8, "floatsOf", "(II)I"⟩
abbrev cX8_floats : ByteArray := prog_10_method_61_code
def yX8_floats : MethodName := ⟨RX8, "floats", "(II)I"⟩
abbrev cX8_openNow : ByteArray := prog_10_method_62_code
def yX8_openNow : MethodName := ⟨RX8, "openNow", "(I)I"⟩
abbrev cX8_open : ByteArray := prog_10_method_63_code
def yX8_open : MethodName := ⟨RX8, "open", "(II)I"⟩
abbrev cX8_part : ByteArray := prog_10_method_64_code
def yX8_part : MethodName := ⟨RX8, "part", "()I"⟩
abbrev cX8_wish : ByteArray := prog_10_method_65_code
def yX8_wish : MethodName := ⟨RX8, "wish", "(IIIII)I"⟩
abbrev cX8_closesOf : ByteArray := prog_10_method_66_code
def yX8_closesOf : MethodName := ⟨RX8, "closesOf", "(III)I"⟩
abbrev cX8_closes : ByteArray := prog_10_method_67_code
def yX8_closes : MethodName := ⟨RX8, "closes", "(III)I"⟩
abbrev cX8_best : ByteArray := prog_10_method_68_code
def yX8_best : MethodName := ⟨RX8, "best", "(II)I"⟩
abbrev cX8_tell : ByteArray := prog_10_method_69_code
def yX8_tell : MethodName := ⟨RX8, "tell", "(II)I"⟩
abbrev cX8_mayLast : ByteArray := prog_10_method_70_code
def yX8_mayLast : MethodName := ⟨RX8, "mayLast", "(III)Z"⟩
abbrev cX8_holdsTold : ByteArray := prog_10_method_71_code
def yX8_holdsTold : MethodName := ⟨RX8, "holdsTold", "(I)Z"⟩
abbrev cX8_judge : ByteArray := prog_10_method_72_code
def yX8_judge : MethodName := ⟨RX8, "judge", "(I)I"⟩
abbrev cX8_howMany : ByteArray := prog_10_method_73_code
def yX8_howMany : MethodName := ⟨RX8, "howMany", "(I)I"⟩
abbrev cX8_count : ByteArray := prog_10_method_74_code
def yX8_count : MethodName := ⟨RX8, "count", "(I)I"⟩
abbrev cX8_mix : ByteArray := prog_10_method_75_code
def yX8_mix : MethodName := ⟨RX8, "mix", "(J)V"⟩
abbrev cX8_digest : ByteArray := prog_10_method_76_code
def yX8_digest : MethodName := ⟨RX8, "digest", "()J"⟩
def RL : String := "ReignLaddersLaw"
abbrev cL_law : ByteArray := code
abbrev vwCl : List vw_C := [(RX0, TX0, 2), (RX1, TX1, 18), (RX2, TX2, 4), (RX3, TX3, 5), (RX4, TX4, 3), (RX5, TX5, 7), (RX6, TX6, 5), (RX7, TX7, 9), (RX8, TX8, 34)]
