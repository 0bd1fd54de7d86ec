section
-- ===== PART A: goes FIRST, ahead of the names: the tables' words, and 'selects' of the private methods out of them =====
/-- a private method of a class that the tables say can be made, by its rows of tables_1 -/
def lw_okq (q : MethodName × Nat) : Prop := (q.1.cls ≠ "java/lang/invoke/MethodHandle" ∧ q.1.cls ≠ "java/lang/invoke/VarHandle") ∧ Cond.instantiable q.1.cls q.2 ∈ tables_1 ∧ Cond.privateMethod q.1 ∈ tables_1 ∧ Cond.instanceMethod q.1 ∈ tables_1
theorem lw_p0 : lw_okq (⟨"ReignLadders$Reigns", "counted", "(II)I"⟩, 5) := ⟨⟨by decide +kernel, by decide +kernel⟩, List.mem_of_getElem? (i := 22) (by decide +kernel), List.mem_of_getElem? (i := 297) (by decide +kernel), List.mem_of_getElem? (i := 298) (by decide +kernel)⟩
theorem lw_p1 : lw_okq (⟨"ReignLadders$Reigns", "otherReading", "(II)I"⟩, 5) := ⟨⟨by decide +kernel, by decide +kernel⟩, List.mem_of_getElem? (i := 22) (by decide +kernel), List.mem_of_getElem? (i := 301) (by decide +kernel), List.mem_of_getElem? (i := 302) (by decide +kernel)⟩
theorem lw_p2 : lw_okq (⟨"ReignLadders", "arePair", "(II)Z"⟩, 9) := ⟨⟨by decide +kernel, by decide +kernel⟩, List.mem_of_getElem? (i := 14) (by decide +kernel), List.mem_of_getElem? (i := 337) (by decide +kernel), List.mem_of_getElem? (i := 338) (by decide +kernel)⟩
theorem lw_p3 : lw_okq (⟨"ReignLadders$Page", "after", "(I)I"⟩, 4) := ⟨⟨by decide +kernel, by decide +kernel⟩, List.mem_of_getElem? (i := 114) (by decide +kernel), List.mem_of_getElem? (i := 448) (by decide +kernel), List.mem_of_getElem? (i := 449) (by decide +kernel)⟩
theorem lw_p4 : lw_okq (⟨"ReignLadders$Page", "afterFactorEnds", "(I)I"⟩, 4) := ⟨⟨by decide +kernel, by decide +kernel⟩, List.mem_of_getElem? (i := 114) (by decide +kernel), List.mem_of_getElem? (i := 458) (by decide +kernel), List.mem_of_getElem? (i := 459) (by decide +kernel)⟩
theorem lw_p5 : lw_okq (⟨"ReignLadders", "schoolOf", "(I)LReignLadders$School;"⟩, 9) := ⟨⟨by decide +kernel, by decide +kernel⟩, List.mem_of_getElem? (i := 14) (by decide +kernel), List.mem_of_getElem? (i := 474) (by decide +kernel), List.mem_of_getElem? (i := 475) (by decide +kernel)⟩
theorem lw_p6 : lw_okq (⟨"ReignLadders", "countFor", "(II)I"⟩, 9) := ⟨⟨by decide +kernel, by decide +kernel⟩, List.mem_of_getElem? (i := 14) (by decide +kernel), List.mem_of_getElem? (i := 505) (by decide +kernel), List.mem_of_getElem? (i := 506) (by decide +kernel)⟩
theorem lw_p7 : lw_okq (⟨"ReignLadders$Subject", "begin", "()V"⟩, 7) := ⟨⟨by decide +kernel, by decide +kernel⟩, List.mem_of_getElem? (i := 86) (by decide +kernel), List.mem_of_getElem? (i := 523) (by decide +kernel), List.mem_of_getElem? (i := 524) (by decide +kernel)⟩
theorem lw_p8 : lw_okq (⟨"ReignLadders$Subject", "end", "()J"⟩, 7) := ⟨⟨by decide +kernel, by decide +kernel⟩, List.mem_of_getElem? (i := 86) (by decide +kernel), List.mem_of_getElem? (i := 527) (by decide +kernel), List.mem_of_getElem? (i := 528) (by decide +kernel)⟩
theorem lw_p9 : lw_okq (⟨"ReignLadders$Subject", "take", "(J)V"⟩, 7) := ⟨⟨by decide +kernel, by decide +kernel⟩, List.mem_of_getElem? (i := 86) (by decide +kernel), List.mem_of_getElem? (i := 531) (by decide +kernel), List.mem_of_getElem? (i := 532) (by decide +kernel)⟩
theorem lw_p10 : lw_okq (⟨"ReignLadders$Subject", "valueOf", "(I)I"⟩, 7) := ⟨⟨by decide +kernel, by decide +kernel⟩, List.mem_of_getElem? (i := 86) (by decide +kernel), List.mem_of_getElem? (i := 539) (by decide +kernel), List.mem_of_getElem? (i := 540) (by decide +kernel)⟩
theorem lw_p11 : lw_okq (⟨"ReignLadders", "beliefFor", "(II)I"⟩, 9) := ⟨⟨by decide +kernel, by decide +kernel⟩, List.mem_of_getElem? (i := 14) (by decide +kernel), List.mem_of_getElem? (i := 550) (by decide +kernel), List.mem_of_getElem? (i := 551) (by decide +kernel)⟩
theorem lw_p12 : lw_okq (⟨"ReignLadders", "lay", "(II)I"⟩, 9) := ⟨⟨by decide +kernel, by decide +kernel⟩, List.mem_of_getElem? (i := 14) (by decide +kernel), List.mem_of_getElem? (i := 561) (by decide +kernel), List.mem_of_getElem? (i := 562) (by decide +kernel)⟩
theorem lw_p13 : lw_okq (⟨"ReignLadders$Ladders", "layBehind", "(III)V"⟩, 18) := ⟨⟨by decide +kernel, by decide +kernel⟩, List.mem_of_getElem? (i := 133) (by decide +kernel), List.mem_of_getElem? (i := 582) (by decide +kernel), List.mem_of_getElem? (i := 583) (by decide +kernel)⟩
theorem lw_p14 : lw_okq (⟨"ReignLadders", "believedBy", "(II)I"⟩, 9) := ⟨⟨by decide +kernel, by decide +kernel⟩, List.mem_of_getElem? (i := 14) (by decide +kernel), List.mem_of_getElem? (i := 599) (by decide +kernel), List.mem_of_getElem? (i := 600) (by decide +kernel)⟩
theorem lw_p15 : lw_okq (⟨"ReignLadders$Ladders", "layTies", "(I)Z"⟩, 18) := ⟨⟨by decide +kernel, by decide +kernel⟩, List.mem_of_getElem? (i := 133) (by decide +kernel), List.mem_of_getElem? (i := 612) (by decide +kernel), List.mem_of_getElem? (i := 613) (by decide +kernel)⟩
def lw_privs_1 : List (MethodName × Nat) := [(⟨"ReignLadders$Reigns", "counted", "(II)I"⟩, 5), (⟨"ReignLadders$Reigns", "otherReading", "(II)I"⟩, 5), (⟨"ReignLadders", "arePair", "(II)Z"⟩, 9), (⟨"ReignLadders$Page", "after", "(I)I"⟩, 4), (⟨"ReignLadders$Page", "afterFactorEnds", "(I)I"⟩, 4), (⟨"ReignLadders", "schoolOf", "(I)LReignLadders$School;"⟩, 9), (⟨"ReignLadders", "countFor", "(II)I"⟩, 9), (⟨"ReignLadders$Subject", "begin", "()V"⟩, 7), (⟨"ReignLadders$Subject", "end", "()J"⟩, 7), (⟨"ReignLadders$Subject", "take", "(J)V"⟩, 7), (⟨"ReignLadders$Subject", "valueOf", "(I)I"⟩, 7), (⟨"ReignLadders", "beliefFor", "(II)I"⟩, 9), (⟨"ReignLadders", "lay", "(II)I"⟩, 9), (⟨"ReignLadders$Ladders", "layBehind", "(III)V"⟩, 18), (⟨"ReignLadders", "believedBy", "(II)I"⟩, 9), (⟨"ReignLadders$Ladders", "layTies", "(I)Z"⟩, 18)]
theorem lw_r1 : ∀ q ∈ lw_privs_1, lw_okq q := List.forall_mem_cons.mpr ⟨lw_p0, List.forall_mem_cons.mpr ⟨lw_p1, List.forall_mem_cons.mpr ⟨lw_p2, List.forall_mem_cons.mpr ⟨lw_p3, List.forall_mem_cons.mpr ⟨lw_p4, List.forall_mem_cons.mpr ⟨lw_p5, List.forall_mem_cons.mpr ⟨lw_p6, List.forall_mem_cons.mpr ⟨lw_p7, List.forall_mem_cons.mpr ⟨lw_p8, List.forall_mem_cons.mpr ⟨lw_p9, List.forall_mem_cons.mpr ⟨lw_p10, List.forall_mem_cons.mpr ⟨lw_p11, List.forall_mem_cons.mpr ⟨lw_p12, List.forall_mem_cons.mpr ⟨lw_p13, List.forall_mem_cons.mpr ⟨lw_p14, List.forall_mem_cons.mpr ⟨lw_p15, fun _ h => absurd h List.not_mem_nil⟩⟩⟩⟩⟩⟩⟩⟩⟩⟩⟩⟩⟩⟩⟩⟩
theorem lw_p16 : lw_okq (⟨"ReignLadders$Ladders", "layTie", "(I)Z"⟩, 18) := ⟨⟨by decide +kernel, by decide +kernel⟩, List.mem_of_getElem? (i := 133) (by decide +kernel), List.mem_of_getElem? (i := 624) (by decide +kernel), List.mem_of_getElem? (i := 625) (by decide +kernel)⟩
theorem lw_p17 : lw_okq (⟨"ReignLadders$Ladders", "layPair", "(LReignLadders$Ties;I)Z"⟩, 18) := ⟨⟨by decide +kernel, by decide +kernel⟩, List.mem_of_getElem? (i := 133) (by decide +kernel), List.mem_of_getElem? (i := 629) (by decide +kernel), List.mem_of_getElem? (i := 630) (by decide +kernel)⟩
theorem lw_p18 : lw_okq (⟨"ReignLadders$Ladders", "takeForks", "(I)Z"⟩, 18) := ⟨⟨by decide +kernel, by decide +kernel⟩, List.mem_of_getElem? (i := 133) (by decide +kernel), List.mem_of_getElem? (i := 642) (by decide +kernel), List.mem_of_getElem? (i := 643) (by decide +kernel)⟩
theorem lw_p19 : lw_okq (⟨"ReignLadders$Ladders", "tryYears", "(Z)V"⟩, 18) := ⟨⟨by decide +kernel, by decide +kernel⟩, List.mem_of_getElem? (i := 133) (by decide +kernel), List.mem_of_getElem? (i := 647) (by decide +kernel), List.mem_of_getElem? (i := 648) (by decide +kernel)⟩
theorem lw_p20 : lw_okq (⟨"ReignLadders$Ladders", "yearsOf", "(I)I"⟩, 18) := ⟨⟨by decide +kernel, by decide +kernel⟩, List.mem_of_getElem? (i := 133) (by decide +kernel), List.mem_of_getElem? (i := 651) (by decide +kernel), List.mem_of_getElem? (i := 652) (by decide +kernel)⟩
theorem lw_p21 : lw_okq (⟨"ReignLadders$Ladders", "beginning", "(II)I"⟩, 18) := ⟨⟨by decide +kernel, by decide +kernel⟩, List.mem_of_getElem? (i := 133) (by decide +kernel), List.mem_of_getElem? (i := 655) (by decide +kernel), List.mem_of_getElem? (i := 656) (by decide +kernel)⟩
theorem lw_p22 : lw_okq (⟨"ReignLadders$Ladders", "pointOf", "(I)I"⟩, 18) := ⟨⟨by decide +kernel, by decide +kernel⟩, List.mem_of_getElem? (i := 133) (by decide +kernel), List.mem_of_getElem? (i := 659) (by decide +kernel), List.mem_of_getElem? (i := 660) (by decide +kernel)⟩
theorem lw_p23 : lw_okq (⟨"ReignLadders$Ladders", "widen", "(II)V"⟩, 18) := ⟨⟨by decide +kernel, by decide +kernel⟩, List.mem_of_getElem? (i := 133) (by decide +kernel), List.mem_of_getElem? (i := 672) (by decide +kernel), List.mem_of_getElem? (i := 673) (by decide +kernel)⟩
theorem lw_p24 : lw_okq (⟨"ReignLadders", "holders", "(III)I"⟩, 9) := ⟨⟨by decide +kernel, by decide +kernel⟩, List.mem_of_getElem? (i := 14) (by decide +kernel), List.mem_of_getElem? (i := 691) (by decide +kernel), List.mem_of_getElem? (i := 692) (by decide +kernel)⟩
theorem lw_p25 : lw_okq (⟨"ReignLadders", "doubted", "(II)I"⟩, 9) := ⟨⟨by decide +kernel, by decide +kernel⟩, List.mem_of_getElem? (i := 14) (by decide +kernel), List.mem_of_getElem? (i := 699) (by decide +kernel), List.mem_of_getElem? (i := 700) (by decide +kernel)⟩
theorem lw_p26 : lw_okq (⟨"ReignLadders", "afloat", "(II)I"⟩, 9) := ⟨⟨by decide +kernel, by decide +kernel⟩, List.mem_of_getElem? (i := 14) (by decide +kernel), List.mem_of_getElem? (i := 713) (by decide +kernel), List.mem_of_getElem? (i := 714) (by decide +kernel)⟩
theorem lw_p27 : lw_okq (⟨"ReignLadders", "gain", "(IIII)I"⟩, 9) := ⟨⟨by decide +kernel, by decide +kernel⟩, List.mem_of_getElem? (i := 14) (by decide +kernel), List.mem_of_getElem? (i := 759) (by decide +kernel), List.mem_of_getElem? (i := 760) (by decide +kernel)⟩
theorem lw_p28 : lw_okq (⟨"ReignLadders", "sayingsDigest", "(JI)J"⟩, 9) := ⟨⟨by decide +kernel, by decide +kernel⟩, List.mem_of_getElem? (i := 14) (by decide +kernel), List.mem_of_getElem? (i := 822) (by decide +kernel), List.mem_of_getElem? (i := 823) (by decide +kernel)⟩
theorem lw_p29 : lw_okq (⟨"ReignLaddersModel", "lastOf", "(I)I"⟩, 34) := ⟨⟨by decide +kernel, by decide +kernel⟩, List.mem_of_getElem? (i := 839) (by decide +kernel), List.mem_of_getElem? (i := 960) (by decide +kernel), List.mem_of_getElem? (i := 961) (by decide +kernel)⟩
theorem lw_p30 : lw_okq (⟨"ReignLaddersModel", "isReign", "(I)Z"⟩, 34) := ⟨⟨by decide +kernel, by decide +kernel⟩, List.mem_of_getElem? (i := 839) (by decide +kernel), List.mem_of_getElem? (i := 971) (by decide +kernel), List.mem_of_getElem? (i := 972) (by decide +kernel)⟩
theorem lw_p31 : lw_okq (⟨"ReignLaddersModel", "aboutOf", "(II)I"⟩, 34) := ⟨⟨by decide +kernel, by decide +kernel⟩, List.mem_of_getElem? (i := 839) (by decide +kernel), List.mem_of_getElem? (i := 975) (by decide +kernel), List.mem_of_getElem? (i := 976) (by decide +kernel)⟩
def lw_privs_2 : List (MethodName × Nat) := [(⟨"ReignLadders$Ladders", "layTie", "(I)Z"⟩, 18), (⟨"ReignLadders$Ladders", "layPair", "(LReignLadders$Ties;I)Z"⟩, 18), (⟨"ReignLadders$Ladders", "takeForks", "(I)Z"⟩, 18), (⟨"ReignLadders$Ladders", "tryYears", "(Z)V"⟩, 18), (⟨"ReignLadders$Ladders", "yearsOf", "(I)I"⟩, 18), (⟨"ReignLadders$Ladders", "beginning", "(II)I"⟩, 18), (⟨"ReignLadders$Ladders", "pointOf", "(I)I"⟩, 18), (⟨"ReignLadders$Ladders", "widen", "(II)V"⟩, 18), (⟨"ReignLadders", "holders", "(III)I"⟩, 9), (⟨"ReignLadders", "doubted", "(II)I"⟩, 9), (⟨"ReignLadders", "afloat", "(II)I"⟩, 9), (⟨"ReignLadders", "gain", "(IIII)I"⟩, 9), (⟨"ReignLadders", "sayingsDigest", "(JI)J"⟩, 9), (⟨"ReignLaddersModel", "lastOf", "(I)I"⟩, 34), (⟨"ReignLaddersModel", "isReign", "(I)Z"⟩, 34), (⟨"ReignLaddersModel", "aboutOf", "(II)I"⟩, 34)]
theorem lw_r2 : ∀ q ∈ lw_privs_2, lw_okq q := List.forall_mem_cons.mpr ⟨lw_p16, List.forall_mem_cons.mpr ⟨lw_p17, List.forall_mem_cons.mpr ⟨lw_p18, List.forall_mem_cons.mpr ⟨lw_p19, List.forall_mem_cons.mpr ⟨lw_p20, List.forall_mem_cons.mpr ⟨lw_p21, List.forall_mem_cons.mpr ⟨lw_p22, List.forall_mem_cons.mpr ⟨lw_p23, List.forall_mem_cons.mpr ⟨lw_p24, List.forall_mem_cons.mpr ⟨lw_p25, List.forall_mem_cons.mpr ⟨lw_p26, List.forall_mem_cons.mpr ⟨lw_p27, List.forall_mem_cons.mpr ⟨lw_p28, List.forall_mem_cons.mpr ⟨lw_p29, List.forall_mem_cons.mpr ⟨lw_p30, List.forall_mem_cons.mpr ⟨lw_p31, fun _ h => absurd h List.not_mem_nil⟩⟩⟩⟩⟩⟩⟩⟩⟩⟩⟩⟩⟩⟩⟩⟩
theorem lw_p32 : lw_okq (⟨"ReignLaddersModel", "leastOf", "(II)I"⟩, 34) := ⟨⟨by decide +kernel, by decide +kernel⟩, List.mem_of_getElem? (i := 839) (by decide +kernel), List.mem_of_getElem? (i := 987) (by decide +kernel), List.mem_of_getElem? (i := 988) (by decide +kernel)⟩
theorem lw_p33 : lw_okq (⟨"ReignLaddersModel", "otherLength", "(II)I"⟩, 34) := ⟨⟨by decide +kernel, by decide +kernel⟩, List.mem_of_getElem? (i := 839) (by decide +kernel), List.mem_of_getElem? (i := 991) (by decide +kernel), List.mem_of_getElem? (i := 992) (by decide +kernel)⟩
theorem lw_p34 : lw_okq (⟨"ReignLaddersModel", "mostOf", "(II)I"⟩, 34) := ⟨⟨by decide +kernel, by decide +kernel⟩, List.mem_of_getElem? (i := 839) (by decide +kernel), List.mem_of_getElem? (i := 995) (by decide +kernel), List.mem_of_getElem? (i := 996) (by decide +kernel)⟩
theorem lw_p35 : lw_okq (⟨"ReignLaddersModel", "lengthsOf", "(II)I"⟩, 34) := ⟨⟨by decide +kernel, by decide +kernel⟩, List.mem_of_getElem? (i := 839) (by decide +kernel), List.mem_of_getElem? (i := 999) (by decide +kernel), List.mem_of_getElem? (i := 1000) (by decide +kernel)⟩
theorem lw_p36 : lw_okq (⟨"ReignLaddersModel", "come", "(IIIIIII)I"⟩, 34) := ⟨⟨by decide +kernel, by decide +kernel⟩, List.mem_of_getElem? (i := 839) (by decide +kernel), List.mem_of_getElem? (i := 1014) (by decide +kernel), List.mem_of_getElem? (i := 1015) (by decide +kernel)⟩
theorem lw_p37 : lw_okq (⟨"ReignLaddersModel", "isTie", "(I)Z"⟩, 34) := ⟨⟨by decide +kernel, by decide +kernel⟩, List.mem_of_getElem? (i := 839) (by decide +kernel), List.mem_of_getElem? (i := 1037) (by decide +kernel), List.mem_of_getElem? (i := 1038) (by decide +kernel)⟩
theorem lw_p38 : lw_okq (⟨"ReignLaddersModel", "readText", "()V"⟩, 34) := ⟨⟨by decide +kernel, by decide +kernel⟩, List.mem_of_getElem? (i := 839) (by decide +kernel), List.mem_of_getElem? (i := 1058) (by decide +kernel), List.mem_of_getElem? (i := 1059) (by decide +kernel)⟩
theorem lw_p39 : lw_okq (⟨"ReignLaddersModel", "next", "(III)I"⟩, 34) := ⟨⟨by decide +kernel, by decide +kernel⟩, List.mem_of_getElem? (i := 839) (by decide +kernel), List.mem_of_getElem? (i := 1062) (by decide +kernel), List.mem_of_getElem? (i := 1063) (by decide +kernel)⟩
theorem lw_p40 : lw_okq (⟨"ReignLaddersModel", "countsOf", "(II)I"⟩, 34) := ⟨⟨by decide +kernel, by decide +kernel⟩, List.mem_of_getElem? (i := 839) (by decide +kernel), List.mem_of_getElem? (i := 1084) (by decide +kernel), List.mem_of_getElem? (i := 1085) (by decide +kernel)⟩
theorem lw_p41 : lw_okq (⟨"ReignLaddersModel", "saysOf", "(III)I"⟩, 34) := ⟨⟨by decide +kernel, by decide +kernel⟩, List.mem_of_getElem? (i := 839) (by decide +kernel), List.mem_of_getElem? (i := 1088) (by decide +kernel), List.mem_of_getElem? (i := 1089) (by decide +kernel)⟩
theorem lw_p42 : lw_okq (⟨"ReignLaddersModel", "holds", "(I)Z"⟩, 34) := ⟨⟨by decide +kernel, by decide +kernel⟩, List.mem_of_getElem? (i := 839) (by decide +kernel), List.mem_of_getElem? (i := 1092) (by decide +kernel), List.mem_of_getElem? (i := 1093) (by decide +kernel)⟩
theorem lw_p43 : lw_okq (⟨"ReignLaddersModel", "openGroup", "()V"⟩, 34) := ⟨⟨by decide +kernel, by decide +kernel⟩, List.mem_of_getElem? (i := 839) (by decide +kernel), List.mem_of_getElem? (i := 1096) (by decide +kernel), List.mem_of_getElem? (i := 1097) (by decide +kernel)⟩
theorem lw_p44 : lw_okq (⟨"ReignLaddersModel", "factor", "(Z)V"⟩, 34) := ⟨⟨by decide +kernel, by decide +kernel⟩, List.mem_of_getElem? (i := 839) (by decide +kernel), List.mem_of_getElem? (i := 1100) (by decide +kernel), List.mem_of_getElem? (i := 1101) (by decide +kernel)⟩
theorem lw_p45 : lw_okq (⟨"ReignLaddersModel", "believesOf", "(II)I"⟩, 34) := ⟨⟨by decide +kernel, by decide +kernel⟩, List.mem_of_getElem? (i := 839) (by decide +kernel), List.mem_of_getElem? (i := 1111) (by decide +kernel), List.mem_of_getElem? (i := 1112) (by decide +kernel)⟩
theorem lw_p46 : lw_okq (⟨"ReignLaddersModel", "tiesOf", "(II)I"⟩, 34) := ⟨⟨by decide +kernel, by decide +kernel⟩, List.mem_of_getElem? (i := 839) (by decide +kernel), List.mem_of_getElem? (i := 1119) (by decide +kernel), List.mem_of_getElem? (i := 1120) (by decide +kernel)⟩
theorem lw_p47 : lw_okq (⟨"ReignLaddersModel", "isKnown", "(II)Z"⟩, 34) := ⟨⟨by decide +kernel, by decide +kernel⟩, List.mem_of_getElem? (i := 839) (by decide +kernel), List.mem_of_getElem? (i := 1123) (by decide +kernel), List.mem_of_getElem? (i := 1124) (by decide +kernel)⟩
def lw_privs_3 : List (MethodName × Nat) := [(⟨"ReignLaddersModel", "leastOf", "(II)I"⟩, 34), (⟨"ReignLaddersModel", "otherLength", "(II)I"⟩, 34), (⟨"ReignLaddersModel", "mostOf", "(II)I"⟩, 34), (⟨"ReignLaddersModel", "lengthsOf", "(II)I"⟩, 34), (⟨"ReignLaddersModel", "come", "(IIIIIII)I"⟩, 34), (⟨"ReignLaddersModel", "isTie", "(I)Z"⟩, 34), (⟨"ReignLaddersModel", "readText", "()V"⟩, 34), (⟨"ReignLaddersModel", "next", "(III)I"⟩, 34), (⟨"ReignLaddersModel", "countsOf", "(II)I"⟩, 34), (⟨"ReignLaddersModel", "saysOf", "(III)I"⟩, 34), (⟨"ReignLaddersModel", "holds", "(I)Z"⟩, 34), (⟨"ReignLaddersModel", "openGroup", "()V"⟩, 34), (⟨"ReignLaddersModel", "factor", "(Z)V"⟩, 34), (⟨"ReignLaddersModel", "believesOf", "(II)I"⟩, 34), (⟨"ReignLaddersModel", "tiesOf", "(II)I"⟩, 34), (⟨"ReignLaddersModel", "isKnown", "(II)Z"⟩, 34)]
theorem lw_r3 : ∀ q ∈ lw_privs_3, lw_okq q := List.forall_mem_cons.mpr ⟨lw_p32, List.forall_mem_cons.mpr ⟨lw_p33, List.forall_mem_cons.mpr ⟨lw_p34, List.forall_mem_cons.mpr ⟨lw_p35, List.forall_mem_cons.mpr ⟨lw_p36, List.forall_mem_cons.mpr ⟨lw_p37, List.forall_mem_cons.mpr ⟨lw_p38, List.forall_mem_cons.mpr ⟨lw_p39, List.forall_mem_cons.mpr ⟨lw_p40, List.forall_mem_cons.mpr ⟨lw_p41, List.forall_mem_cons.mpr ⟨lw_p42, List.forall_mem_cons.mpr ⟨lw_p43, List.forall_mem_cons.mpr ⟨lw_p44, List.forall_mem_cons.mpr ⟨lw_p45, List.forall_mem_cons.mpr ⟨lw_p46, List.forall_mem_cons.mpr ⟨lw_p47, fun _ h => absurd h List.not_mem_nil⟩⟩⟩⟩⟩⟩⟩⟩⟩⟩⟩⟩⟩⟩⟩⟩
theorem lw_p48 : lw_okq (⟨"ReignLaddersModel", "solve", "(IIII)V"⟩, 34) := ⟨⟨by decide +kernel, by decide +kernel⟩, List.mem_of_getElem? (i := 839) (by decide +kernel), List.mem_of_getElem? (i := 1127) (by decide +kernel), List.mem_of_getElem? (i := 1128) (by decide +kernel)⟩
theorem lw_p49 : lw_okq (⟨"ReignLaddersModel", "layChoice", "(II)Z"⟩, 34) := ⟨⟨by decide +kernel, by decide +kernel⟩, List.mem_of_getElem? (i := 839) (by decide +kernel), List.mem_of_getElem? (i := 1131) (by decide +kernel), List.mem_of_getElem? (i := 1132) (by decide +kernel)⟩
theorem lw_p50 : lw_okq (⟨"ReignLaddersModel", "bind", "(IIII)V"⟩, 34) := ⟨⟨by decide +kernel, by decide +kernel⟩, List.mem_of_getElem? (i := 839) (by decide +kernel), List.mem_of_getElem? (i := 1136) (by decide +kernel), List.mem_of_getElem? (i := 1137) (by decide +kernel)⟩
theorem lw_p51 : lw_okq (⟨"ReignLaddersModel", "misreadAhead", "(I)I"⟩, 34) := ⟨⟨by decide +kernel, by decide +kernel⟩, List.mem_of_getElem? (i := 839) (by decide +kernel), List.mem_of_getElem? (i := 1140) (by decide +kernel), List.mem_of_getElem? (i := 1141) (by decide +kernel)⟩
theorem lw_p52 : lw_okq (⟨"ReignLaddersModel", "layTie", "(II)V"⟩, 34) := ⟨⟨by decide +kernel, by decide +kernel⟩, List.mem_of_getElem? (i := 839) (by decide +kernel), List.mem_of_getElem? (i := 1144) (by decide +kernel), List.mem_of_getElem? (i := 1145) (by decide +kernel)⟩
theorem lw_p53 : lw_okq (⟨"ReignLaddersModel", "closeWays", "()Z"⟩, 34) := ⟨⟨by decide +kernel, by decide +kernel⟩, List.mem_of_getElem? (i := 839) (by decide +kernel), List.mem_of_getElem? (i := 1149) (by decide +kernel), List.mem_of_getElem? (i := 1150) (by decide +kernel)⟩
theorem lw_p54 : lw_okq (⟨"ReignLaddersModel", "take", "(I)V"⟩, 34) := ⟨⟨by decide +kernel, by decide +kernel⟩, List.mem_of_getElem? (i := 839) (by decide +kernel), List.mem_of_getElem? (i := 1153) (by decide +kernel), List.mem_of_getElem? (i := 1154) (by decide +kernel)⟩
theorem lw_p55 : lw_okq (⟨"ReignLaddersModel", "floatsOf", "(II)I"⟩, 34) := ⟨⟨by decide +kernel, by decide +kernel⟩, List.mem_of_getElem? (i := 839) (by decide +kernel), List.mem_of_getElem? (i := 1176) (by decide +kernel), List.mem_of_getElem? (i := 1177) (by decide +kernel)⟩
theorem lw_p56 : lw_okq (⟨"ReignLaddersModel", "openNow", "(I)I"⟩, 34) := ⟨⟨by decide +kernel, by decide +kernel⟩, List.mem_of_getElem? (i := 839) (by decide +kernel), List.mem_of_getElem? (i := 1184) (by decide +kernel), List.mem_of_getElem? (i := 1185) (by decide +kernel)⟩
theorem lw_p57 : lw_okq (⟨"ReignLaddersModel", "closesOf", "(III)I"⟩, 34) := ⟨⟨by decide +kernel, by decide +kernel⟩, List.mem_of_getElem? (i := 839) (by decide +kernel), List.mem_of_getElem? (i := 1200) (by decide +kernel), List.mem_of_getElem? (i := 1201) (by decide +kernel)⟩
theorem lw_p58 : lw_okq (⟨"ReignLaddersModel", "mayLast", "(III)Z"⟩, 34) := ⟨⟨by decide +kernel, by decide +kernel⟩, List.mem_of_getElem? (i := 839) (by decide +kernel), List.mem_of_getElem? (i := 1216) (by decide +kernel), List.mem_of_getElem? (i := 1217) (by decide +kernel)⟩
theorem lw_p59 : lw_okq (⟨"ReignLaddersModel", "holdsTold", "(I)Z"⟩, 34) := ⟨⟨by decide +kernel, by decide +kernel⟩, List.mem_of_getElem? (i := 839) (by decide +kernel), List.mem_of_getElem? (i := 1220) (by decide +kernel), List.mem_of_getElem? (i := 1221) (by decide +kernel)⟩
theorem lw_p60 : lw_okq (⟨"ReignLaddersModel", "howMany", "(I)I"⟩, 34) := ⟨⟨by decide +kernel, by decide +kernel⟩, List.mem_of_getElem? (i := 839) (by decide +kernel), List.mem_of_getElem? (i := 1228) (by decide +kernel), List.mem_of_getElem? (i := 1229) (by decide +kernel)⟩
theorem lw_p61 : lw_okq (⟨"ReignLaddersModel", "mix", "(J)V"⟩, 34) := ⟨⟨by decide +kernel, by decide +kernel⟩, List.mem_of_getElem? (i := 839) (by decide +kernel), List.mem_of_getElem? (i := 1237) (by decide +kernel), List.mem_of_getElem? (i := 1238) (by decide +kernel)⟩
def lw_privs_4 : List (MethodName × Nat) := [(⟨"ReignLaddersModel", "solve", "(IIII)V"⟩, 34), (⟨"ReignLaddersModel", "layChoice", "(II)Z"⟩, 34), (⟨"ReignLaddersModel", "bind", "(IIII)V"⟩, 34), (⟨"ReignLaddersModel", "misreadAhead", "(I)I"⟩, 34), (⟨"ReignLaddersModel", "layTie", "(II)V"⟩, 34), (⟨"ReignLaddersModel", "closeWays", "()Z"⟩, 34), (⟨"ReignLaddersModel", "take", "(I)V"⟩, 34), (⟨"ReignLaddersModel", "floatsOf", "(II)I"⟩, 34), (⟨"ReignLaddersModel", "openNow", "(I)I"⟩, 34), (⟨"ReignLaddersModel", "closesOf", "(III)I"⟩, 34), (⟨"ReignLaddersModel", "mayLast", "(III)Z"⟩, 34), (⟨"ReignLaddersModel", "holdsTold", "(I)Z"⟩, 34), (⟨"ReignLaddersModel", "howMany", "(I)I"⟩, 34), (⟨"ReignLaddersModel", "mix", "(J)V"⟩, 34)]
theorem lw_r4 : ∀ q ∈ lw_privs_4, lw_okq q := List.forall_mem_cons.mpr ⟨lw_p48, List.forall_mem_cons.mpr ⟨lw_p49, List.forall_mem_cons.mpr ⟨lw_p50, List.forall_mem_cons.mpr ⟨lw_p51, List.forall_mem_cons.mpr ⟨lw_p52, List.forall_mem_cons.mpr ⟨lw_p53, List.forall_mem_cons.mpr ⟨lw_p54, List.forall_mem_cons.mpr ⟨lw_p55, List.forall_mem_cons.mpr ⟨lw_p56, List.forall_mem_cons.mpr ⟨lw_p57, List.forall_mem_cons.mpr ⟨lw_p58, List.forall_mem_cons.mpr ⟨lw_p59, List.forall_mem_cons.mpr ⟨lw_p60, List.forall_mem_cons.mpr ⟨lw_p61, fun _ h => absurd h List.not_mem_nil⟩⟩⟩⟩⟩⟩⟩⟩⟩⟩⟩⟩⟩⟩
def lw_privs : List (MethodName × Nat) := lw_privs_1 ++ (lw_privs_2 ++ (lw_privs_3 ++ (lw_privs_4)))
def lw_tbl : List Cond := k2_sels lw_privs ++ tables_1
theorem lw_privs_ok : ∀ q ∈ lw_privs, lw_okq q := by
  show ∀ q ∈ lw_privs_1 ++ (lw_privs_2 ++ (lw_privs_3 ++ (lw_privs_4))), lw_okq q
  exact List.forall_mem_append.mpr ⟨lw_r1, List.forall_mem_append.mpr ⟨lw_r2, List.forall_mem_append.mpr ⟨lw_r3, lw_r4⟩⟩⟩
-- ===== end of PART A; then your names; then what follows =====
def RX0 : String := "ReignLadders$Grid"
def TX0 : u_T := fun k => match k with
  | 0 => ("ReignLadders$Grid", "cells", "[I", true)
  | _ => ("ReignLadders$Grid", "points", "I", false)
def tyX0 : Nat → FieldType := fun k => match k with
  | 0 => .array .int
  | _ => .int
abbrev wsX00 : List Cond := u_ws RX0 TX0 2
theorem nmX0 : ∀ a, a < 2 → ∀ b, b < 2 → a ≠ b → (TX0 a).2.1 ≠ (TX0 b).2.1 := by decide +kernel
theorem tyX0_ok : ∀ k, k < 2 → parseFieldDescriptor (TX0 k).2.2.1 = some (tyX0 k) := by decide +kernel
abbrev cX0_init : ByteArray := prog_2_method_1_code
def yX0_init : MethodName := ⟨RX0, "<init>", "()V"⟩
abbrev cX0_clear : ByteArray := prog_2_method_2_code
def yX0_clear : MethodName := ⟨RX0, "clear", "(I)V"⟩
abbrev cX0_copy : ByteArray := prog_2_method_3_code
def yX0_copy : MethodName := ⟨RX0, "copy", "(LReignLadders$Grid;)V"⟩
abbrev cX0_most : ByteArray := prog_2_method_4_code
def yX0_most : MethodName := ⟨RX0, "most", "(II)I"⟩
abbrev cX0_keep : ByteArray := prog_2_method_5_code
def yX0_keep : MethodName := ⟨RX0, "keep", "(IIII)Z"⟩
abbrev cX0_hold : ByteArray := prog_2_method_6_code
def yX0_hold : MethodName := ⟨RX0, "hold", "(III)Z"⟩
abbrev cX0_allows : ByteArray := prog_2_method_7_code
def yX0_allows : MethodName := ⟨RX0, "allows", "(IIII)Z"⟩
def RX1 : String := "ReignLadders$Ladders"
def TX1 : u_T := fun k => match k with
  | 0 => ("ReignLadders$Ladders", "reigns", "LReignLadders$Reigns;", true)
  | 1 => ("ReignLadders$Ladders", "ties", "LReignLadders$Ties;", true)
  | 2 => ("ReignLadders$Ladders", "wishes", "LReignLadders$Ties;", true)
  | 3 => ("ReignLadders$Ladders", "lists", "LReignLadders$Grid;", true)
  | 4 => ("ReignLadders$Ladders", "tiedLists", "LReignLadders$Grid;", true)
  | 5 => ("ReignLadders$Ladders", "trial", "LReignLadders$Grid;", true)
  | 6 => ("ReignLadders$Ladders", "forkBehind", "[I", true)
  | 7 => ("ReignLadders$Ladders", "forkLeast", "[I", true)
  | 8 => ("ReignLadders$Ladders", "forkMost", "[I", true)
  | 9 => ("ReignLadders$Ladders", "least", "[I", true)
  | 10 => ("ReignLadders$Ladders", "greatest", "[I", true)
  | 11 => ("ReignLadders$Ladders", "keptLeast", "[I", true)
  | 12 => ("ReignLadders$Ladders", "keptGreatest", "[I", true)
  | 13 => ("ReignLadders$Ladders", "edition", "I", false)
  | 14 => ("ReignLadders$Ladders", "forks", "I", false)
  | 15 => ("ReignLadders$Ladders", "firstSky", "I", false)
  | 16 => ("ReignLadders$Ladders", "secondSky", "I", false)
  | _ => ("ReignLadders$Ladders", "found", "Z", false)
def tyX1 : Nat → FieldType := fun k => match k with
  | 0 => .object "ReignLadders$Reigns"
  | 1 => .object "ReignLadders$Ties"
  | 2 => .object "ReignLadders$Ties"
  | 3 => .object "ReignLadders$Grid"
  | 4 => .object "ReignLadders$Grid"
  | 5 => .object "ReignLadders$Grid"
  | 6 => .array .int
  | 7 => .array .int
  | 8 => .array .int
  | 9 => .array .int
  | 10 => .array .int
  | 11 => .array .int
  | 12 => .array .int
  | 13 => .int
  | 14 => .int
  | 15 => .int
  | 16 => .int
  | _ => .boolean
abbrev wsX10 : List Cond := u_ws RX1 TX1 18
theorem nmX1 : ∀ a, a < 18 → ∀ b, b < 18 → a ≠ b → (TX1 a).2.1 ≠ (TX1 b).2.1 := by decide +kernel
theorem tyX1_ok : ∀ k, k < 18 → parseFieldDescriptor (TX1 k).2.2.1 = some (tyX1 k) := by decide +kernel
abbrev cX1_init : ByteArray := prog_3_method_1_code
def yX1_init : MethodName := ⟨RX1, "<init>", "(LReignLadders$Reigns;LReignLadders$Ties;LReignLadders$Ties;)V"⟩
abbrev cX1_layLists : ByteArray := prog_3_method_2_code
def yX1_layLists : MethodName := ⟨RX1, "layLists", "(II)V"⟩
abbrev cX1_layBehind : ByteArray := prog_3_method_3_code
def yX1_layBehind : MethodName := ⟨RX1, "layBehind", "(III)V"⟩
abbrev cX1_find : ByteArray := prog_3_method_4_code
def yX1_find : MethodName := ⟨RX1, "find", "(IIZ)Z"⟩
abbrev cX1_layTies : ByteArray := prog_3_method_5_code
def yX1_layTies : MethodName := ⟨RX1, "layTies", "(I)Z"⟩
abbrev cX1_layTie : ByteArray := prog_3_method_6_code
def yX1_layTie : MethodName := ⟨RX1, "layTie", "(I)Z"⟩
abbrev cX1_layPair : ByteArray := prog_3_method_7_code
def yX1_layPair : MethodName := ⟨RX1, "layPair", "(LReignLadders$Ties;I)Z"⟩
abbrev cX1_takeForks : ByteArray := prog_3_method_8_code
def yX1_takeForks : MethodName := ⟨RX1, "takeForks", "(I)Z"⟩
abbrev cX1_tryYears : ByteArray := prog_3_method_9_code
def yX1_tryYears : MethodName := ⟨RX1, "tryYears", "(Z)V"⟩
abbrev cX1_yearsOf : ByteArray := prog_3_method_10_code
def yX1_yearsOf : MethodName := ⟨RX1, "yearsOf", "(I)I"⟩
abbrev cX1_pointOf : ByteArray := prog_3_method_11_code
def yX1_pointOf : MethodName := ⟨RX1, "pointOf", "(I)I"⟩
abbrev cX1_beginning : ByteArray := prog_3_method_12_code
def yX1_beginning : MethodName := ⟨RX1, "beginning", "(II)I"⟩
abbrev cX1_widen : ByteArray := prog_3_method_13_code
def yX1_widen : MethodName := ⟨RX1, "widen", "(II)V"⟩
abbrev cX1_end : ByteArray := prog_3_method_14_code
def yX1_end : MethodName := ⟨RX1, "end", "(II)I"⟩
abbrev cX1_openness : ByteArray := prog_3_method_15_code
def yX1_openness : MethodName := ⟨RX1, "openness", "()I"⟩
abbrev cX1_keepSpans : ByteArray := prog_3_method_16_code
def yX1_keepSpans : MethodName := ⟨RX1, "keepSpans", "()V"⟩
abbrev cX1_firstUnlikeKept : ByteArray := prog_3_method_17_code
def yX1_firstUnlikeKept : MethodName := ⟨RX1, "firstUnlikeKept", "()I"⟩
def RX2 : String := "ReignLadders$Page"
def TX2 : u_T := fun k => match k with
  | 0 => ("ReignLadders$Page", "letters", "[I", true)
  | 1 => ("ReignLadders$Page", "size", "I", false)
  | 2 => ("ReignLadders$Page", "expected", "I", false)
  | _ => ("ReignLadders$Page", "depth", "I", false)
def tyX2 : Nat → FieldType := fun k => match k with
  | 0 => .array .int
  | 1 => .int
  | 2 => .int
  | _ => .int
abbrev wsX20 : List Cond := u_ws RX2 TX2 4
theorem nmX2 : ∀ a, a < 4 → ∀ b, b < 4 → a ≠ b → (TX2 a).2.1 ≠ (TX2 b).2.1 := by decide +kernel
theorem tyX2_ok : ∀ k, k < 4 → parseFieldDescriptor (TX2 k).2.2.1 = some (tyX2 k) := by decide +kernel
abbrev cX2_init : ByteArray := prog_4_method_1_code
def yX2_init : MethodName := ⟨RX2, "<init>", "()V"⟩
abbrev cX2_size : ByteArray := prog_4_method_2_code
def yX2_size : MethodName := ⟨RX2, "size", "()I"⟩
abbrev cX2_letterAt : ByteArray := prog_4_method_3_code
def yX2_letterAt : MethodName := ⟨RX2, "letterAt", "(I)I"⟩
abbrev cX2_byteOf : ByteArray := prog_4_method_4_code
def yX2_byteOf : MethodName := ⟨RX2, "byteOf", "(JI)I"⟩
abbrev cX2_lettersIn : ByteArray := prog_4_method_5_code
def yX2_lettersIn : MethodName := ⟨RX2, "lettersIn", "(J)I"⟩
abbrev cX2_write : ByteArray := prog_4_method_6_code
def yX2_write : MethodName := ⟨RX2, "write", "(JI)I"⟩
abbrev cX2_wipe : ByteArray := prog_4_method_7_code
def yX2_wipe : MethodName := ⟨RX2, "wipe", "()I"⟩
abbrev cX2_firstFault : ByteArray := prog_4_method_8_code
def yX2_firstFault : MethodName := ⟨RX2, "firstFault", "()I"⟩
abbrev cX2_isText : ByteArray := prog_4_method_9_code
def yX2_isText : MethodName := ⟨RX2, "isText", "()Z"⟩
abbrev cX2_after : ByteArray := prog_4_method_10_code
def yX2_after : MethodName := ⟨RX2, "after", "(I)I"⟩
abbrev cX2_afterFactorBegins : ByteArray := prog_4_method_11_code
def yX2_afterFactorBegins : MethodName := ⟨RX2, "afterFactorBegins", "(I)I"⟩
abbrev cX2_afterFactorEnds : ByteArray := prog_4_method_12_code
def yX2_afterFactorEnds : MethodName := ⟨RX2, "afterFactorEnds", "(I)I"⟩
abbrev cX2_isDigit : ByteArray := prog_4_method_13_code
def yX2_isDigit : MethodName := ⟨RX2, "isDigit", "(I)Z"⟩
abbrev cX2_digestOn : ByteArray := prog_4_method_14_code
def yX2_digestOn : MethodName := ⟨RX2, "digestOn", "(J)J"⟩
def RX3 : String := "ReignLadders$Reigns"
def TX3 : u_T := fun k => match k with
  | 0 => ("ReignLadders$Reigns", "facts", "[I", true)
  | 1 => ("ReignLadders$Reigns", "told", "[I", true)
  | 2 => ("ReignLadders$Reigns", "lastOfLand", "[I", true)
  | 3 => ("ReignLadders$Reigns", "size", "I", false)
  | _ => ("ReignLadders$Reigns", "misread", "I", false)
def tyX3 : Nat → FieldType := fun k => match k with
  | 0 => .array .int
  | 1 => .array .int
  | 2 => .array .int
  | 3 => .int
  | _ => .int
abbrev wsX30 : List Cond := u_ws RX3 TX3 5
theorem nmX3 : ∀ a, a < 5 → ∀ b, b < 5 → a ≠ b → (TX3 a).2.1 ≠ (TX3 b).2.1 := by decide +kernel
theorem tyX3_ok : ∀ k, k < 5 → parseFieldDescriptor (TX3 k).2.2.1 = some (tyX3 k) := by decide +kernel
abbrev cX3_init : ByteArray := prog_5_method_1_code
def yX3_init : MethodName := ⟨RX3, "<init>", "()V"⟩
abbrev cX3_size : ByteArray := prog_5_method_2_code
def yX3_size : MethodName := ⟨RX3, "size", "()I"⟩
abbrev cX3_has : ByteArray := prog_5_method_3_code
def yX3_has : MethodName := ⟨RX3, "has", "(I)Z"⟩
abbrev cX3_fact : ByteArray := prog_5_method_4_code
def yX3_fact : MethodName := ⟨RX3, "fact", "(II)I"⟩
abbrev cX3_lastOf : ByteArray := prog_5_method_5_code
def yX3_lastOf : MethodName := ⟨RX3, "lastOf", "(I)I"⟩
abbrev cX3_isOf : ByteArray := prog_5_method_6_code
def yX3_isOf : MethodName := ⟨RX3, "isOf", "(II)Z"⟩
abbrev cX3_hasRoomFor : ByteArray := prog_5_method_7_code
def yX3_hasRoomFor : MethodName := ⟨RX3, "hasRoomFor", "(I)Z"⟩
abbrev cX3_add : ByteArray := prog_5_method_8_code
def yX3_add : MethodName := ⟨RX3, "add", "(IIIII)I"⟩
abbrev cX3_renumber : ByteArray := prog_5_method_9_code
def yX3_renumber : MethodName := ⟨RX3, "renumber", "(II)I"⟩
abbrev cX3_retell : ByteArray := prog_5_method_10_code
def yX3_retell : MethodName := ⟨RX3, "retell", "(II)I"⟩
abbrev cX3_toldYear : ByteArray := prog_5_method_11_code
def yX3_toldYear : MethodName := ⟨RX3, "toldYear", "(I)I"⟩
abbrev cX3_isKnown : ByteArray := prog_5_method_12_code
def yX3_isKnown : MethodName := ⟨RX3, "isKnown", "(II)Z"⟩
abbrev cX3_knownBits : ByteArray := prog_5_method_13_code
def yX3_knownBits : MethodName := ⟨RX3, "knownBits", "(I)I"⟩
abbrev cX3_overlap : ByteArray := prog_5_method_14_code
def yX3_overlap : MethodName := ⟨RX3, "overlap", "(I)I"⟩
abbrev cX3_counted : ByteArray := prog_5_method_15_code
def yX3_counted : MethodName := ⟨RX3, "counted", "(II)I"⟩
abbrev cX3_otherReading : ByteArray := prog_5_method_16_code
def yX3_otherReading : MethodName := ⟨RX3, "otherReading", "(II)I"⟩
abbrev cX3_shortest : ByteArray := prog_5_method_17_code
def yX3_shortest : MethodName := ⟨RX3, "shortest", "(II)I"⟩
abbrev cX3_longest : ByteArray := prog_5_method_18_code
def yX3_longest : MethodName := ⟨RX3, "longest", "(II)I"⟩
abbrev cX3_isMisread : ByteArray := prog_5_method_19_code
def yX3_isMisread : MethodName := ⟨RX3, "isMisread", "(I)Z"⟩
abbrev cX3_lengths : ByteArray := prog_5_method_20_code
def yX3_lengths : MethodName := ⟨RX3, "lengths", "(II)I"⟩
abbrev cX3_isToldBehind : ByteArray := prog_5_method_21_code
def yX3_isToldBehind : MethodName := ⟨RX3, "isToldBehind", "(III)Z"⟩
abbrev cX3_spreadInLands : ByteArray := prog_5_method_22_code
def yX3_spreadInLands : MethodName := ⟨RX3, "spreadInLands", "(II)I"⟩
abbrev cX3_digestOn : ByteArray := prog_5_method_23_code
def yX3_digestOn : MethodName := ⟨RX3, "digestOn", "(J)J"⟩
def RX4 : String := "ReignLadders$School"
def TX4 : u_T := fun k => match k with
  | 0 => ("ReignLadders$School", "letters", "[I", true)
  | 1 => ("ReignLadders$School", "lengths", "[I", true)
  | _ => ("ReignLadders$School", "size", "I", false)
def tyX4 : Nat → FieldType := fun k => match k with
  | 0 => .array .int
  | 1 => .array .int
  | _ => .int
abbrev wsX40 : List Cond := u_ws RX4 TX4 3
theorem nmX4 : ∀ a, a < 3 → ∀ b, b < 3 → a ≠ b → (TX4 a).2.1 ≠ (TX4 b).2.1 := by decide +kernel
theorem tyX4_ok : ∀ k, k < 3 → parseFieldDescriptor (TX4 k).2.2.1 = some (tyX4 k) := by decide +kernel
abbrev cX4_init : ByteArray := prog_6_method_1_code
def yX4_init : MethodName := ⟨RX4, "<init>", "()V"⟩
abbrev cX4_size : ByteArray := prog_6_method_2_code
def yX4_size : MethodName := ⟨RX4, "size", "()I"⟩
abbrev cX4_isFull : ByteArray := prog_6_method_3_code
def yX4_isFull : MethodName := ⟨RX4, "isFull", "()Z"⟩
abbrev cX4_learn : ByteArray := prog_6_method_4_code
def yX4_learn : MethodName := ⟨RX4, "learn", "(LReignLadders$Page;)I"⟩
abbrev cX4_unlearn : ByteArray := prog_6_method_5_code
def yX4_unlearn : MethodName := ⟨RX4, "unlearn", "()I"⟩
abbrev cX4_says : ByteArray := prog_6_method_6_code
def yX4_says : MethodName := ⟨RX4, "says", "(ILReignLadders$Subject;I)I"⟩
def RX5 : String := "ReignLadders$Subject"
def TX5 : u_T := fun k => match k with
  | 0 => ("ReignLadders$Subject", "land", "I", false)
  | 1 => ("ReignLadders$Subject", "kind", "I", false)
  | 2 => ("ReignLadders$Subject", "number", "I", false)
  | 3 => ("ReignLadders$Subject", "own", "I", false)
  | 4 => ("ReignLadders$Subject", "anyTerm", "J", false)
  | 5 => ("ReignLadders$Subject", "allFactors", "J", false)
  | _ => ("ReignLadders$Subject", "flipped", "J", false)
def tyX5 : Nat → FieldType := fun k => match k with
  | 0 => .int
  | 1 => .int
  | 2 => .int
  | 3 => .int
  | 4 => .long
  | 5 => .long
  | _ => .long
abbrev wsX50 : List Cond := u_ws RX5 TX5 7
theorem nmX5 : ∀ a, a < 7 → ∀ b, b < 7 → a ≠ b → (TX5 a).2.1 ≠ (TX5 b).2.1 := by decide +kernel
theorem tyX5_ok : ∀ k, k < 7 → parseFieldDescriptor (TX5 k).2.2.1 = some (tyX5 k) := by decide +kernel
abbrev cX5_init : ByteArray := prog_7_method_1_code
def yX5_init : MethodName := ⟨RX5, "<init>", "()V"⟩
abbrev cX5_set : ByteArray := prog_7_method_2_code
def yX5_set : MethodName := ⟨RX5, "set", "(IIII)V"⟩
abbrev cX5_meets : ByteArray := prog_7_method_3_code
def yX5_meets : MethodName := ⟨RX5, "meets", "([III)Z"⟩
abbrev cX5_begin : ByteArray := prog_7_method_4_code
def yX5_begin : MethodName := ⟨RX5, "begin", "()V"⟩
abbrev cX5_end : ByteArray := prog_7_method_5_code
def yX5_end : MethodName := ⟨RX5, "end", "()J"⟩
abbrev cX5_take : ByteArray := prog_7_method_6_code
def yX5_take : MethodName := ⟨RX5, "take", "(J)V"⟩
abbrev cX5_valueOf : ByteArray := prog_7_method_7_code
def yX5_valueOf : MethodName := ⟨RX5, "valueOf", "(I)I"⟩
abbrev cX5_numberOf : ByteArray := prog_7_method_8_code
def yX5_numberOf : MethodName := ⟨RX5, "numberOf", "(II)I"⟩
abbrev cX5_compared : ByteArray := prog_7_method_9_code
def yX5_compared : MethodName := ⟨RX5, "compared", "(III)J"⟩
def RX6 : String := "ReignLadders$Ties"
def TX6 : u_T := fun k => match k with
  | 0 => ("ReignLadders$Ties", "facts", "[I", true)
  | 1 => ("ReignLadders$Ties", "years", "[I", true)
  | 2 => ("ReignLadders$Ties", "most", "I", true)
  | 3 => ("ReignLadders$Ties", "size", "I", false)
  | _ => ("ReignLadders$Ties", "skies", "I", false)
def tyX6 : Nat → FieldType := fun k => match k with
  | 0 => .array .int
  | 1 => .array .int
  | 2 => .int
  | 3 => .int
  | _ => .int
abbrev wsX60 : List Cond := u_ws RX6 TX6 5
theorem nmX6 : ∀ a, a < 5 → ∀ b, b < 5 → a ≠ b → (TX6 a).2.1 ≠ (TX6 b).2.1 := by decide +kernel
theorem tyX6_ok : ∀ k, k < 5 → parseFieldDescriptor (TX6 k).2.2.1 = some (tyX6 k) := by decide +kernel
abbrev cX6_init : ByteArray := prog_8_method_1_code
def yX6_init : MethodName := ⟨RX6, "<init>", "(I)V"⟩
abbrev cX6_size : ByteArray := prog_8_method_2_code
def yX6_size : MethodName := ⟨RX6, "size", "()I"⟩
abbrev cX6_has : ByteArray := prog_8_method_3_code
def yX6_has : MethodName := ⟨RX6, "has", "(I)Z"⟩
abbrev cX6_isFull : ByteArray := prog_8_method_4_code
def yX6_isFull : MethodName := ⟨RX6, "isFull", "()Z"⟩
abbrev cX6_areSkiesFull : ByteArray := prog_8_method_5_code
def yX6_areSkiesFull : MethodName := ⟨RX6, "areSkiesFull", "()Z"⟩
abbrev cX6_fact : ByteArray := prog_8_method_6_code
def yX6_fact : MethodName := ⟨RX6, "fact", "(II)I"⟩
abbrev cX6_year : ByteArray := prog_8_method_7_code
def yX6_year : MethodName := ⟨RX6, "year", "(II)I"⟩
abbrev cX6_add : ByteArray := prog_8_method_8_code
def yX6_add : MethodName := ⟨RX6, "add", "(IIIIIII)I"⟩
abbrev cX6_addSky : ByteArray := prog_8_method_9_code
def yX6_addSky : MethodName := ⟨RX6, "addSky", "(IIIIII)I"⟩
abbrev cX6_addRing : ByteArray := prog_8_method_10_code
def yX6_addRing : MethodName := ⟨RX6, "addRing", "(IIII)I"⟩
abbrev cX6_drop : ByteArray := prog_8_method_11_code
def yX6_drop : MethodName := ⟨RX6, "drop", "()I"⟩
abbrev cX6_shift : ByteArray := prog_8_method_12_code
def yX6_shift : MethodName := ⟨RX6, "shift", "(I)I"⟩
abbrev cX6_beginning : ByteArray := prog_8_method_13_code
def yX6_beginning : MethodName := ⟨RX6, "beginning", "(II)I"⟩
abbrev cX6_isKnown : ByteArray := prog_8_method_14_code
def yX6_isKnown : MethodName := ⟨RX6, "isKnown", "(IILReignLadders$Reigns;)Z"⟩
abbrev cX6_holdsAsTold : ByteArray := prog_8_method_15_code
def yX6_holdsAsTold : MethodName := ⟨RX6, "holdsAsTold", "(ILReignLadders$Reigns;)Z"⟩
abbrev cX6_spread : ByteArray := prog_8_method_16_code
def yX6_spread : MethodName := ⟨RX6, "spread", "(II)I"⟩
abbrev cX6_digestOn : ByteArray := prog_8_method_17_code
def yX6_digestOn : MethodName := ⟨RX6, "digestOn", "(J)J"⟩
abbrev cX6_digestPairsOn : ByteArray := prog_8_method_18_code
def yX6_digestPairsOn : MethodName := ⟨RX6, "digestPairsOn", "(J)J"⟩
def RX7 : String := "ReignLadders"
def TX7 : u_T := fun k => match k with
  | 0 => ("ReignLadders", "reigns", "LReignLadders$Reigns;", true)
  | 1 => ("ReignLadders", "ties", "LReignLadders$Ties;", true)
  | 2 => ("ReignLadders", "wishes", "LReignLadders$Ties;", true)
  | 3 => ("ReignLadders", "firstSchool", "LReignLadders$School;", true)
  | 4 => ("ReignLadders", "secondSchool", "LReignLadders$School;", true)
  | 5 => ("ReignLadders", "subject", "LReignLadders$Subject;", true)
  | 6 => ("ReignLadders", "page", "LReignLadders$Page;", true)
  | 7 => ("ReignLadders", "ladders", "LReignLadders$Ladders;", true)
  | _ => ("ReignLadders", "doubts", "I", false)
def tyX7 : Nat → FieldType := fun k => match k with
  | 0 => .object "ReignLadders$Reigns"
  | 1 => .object "ReignLadders$Ties"
  | 2 => .object "ReignLadders$Ties"
  | 3 => .object "ReignLadders$School"
  | 4 => .object "ReignLadders$School"
  | 5 => .object "ReignLadders$Subject"
  | 6 => .object "ReignLadders$Page"
  | 7 => .object "ReignLadders$Ladders"
  | _ => .int
abbrev wsX70 : List Cond := u_ws RX7 TX7 9
theorem nmX7 : ∀ a, a < 9 → ∀ b, b < 9 → a ≠ b → (TX7 a).2.1 ≠ (TX7 b).2.1 := by decide +kernel
theorem tyX7_ok : ∀ k, k < 9 → parseFieldDescriptor (TX7 k).2.2.1 = some (tyX7 k) := by decide +kernel
abbrev cX7_init : ByteArray := prog_1_method_1_code
def yX7_init : MethodName := ⟨RX7, "<init>", "()V"⟩
abbrev cX7_reign : ByteArray := prog_1_method_2_code
def yX7_reign : MethodName := ⟨RX7, "reign", "(IIIII)I"⟩
abbrev cX7_about : ByteArray := prog_1_method_3_code
def yX7_about : MethodName := ⟨RX7, "about", "(II)I"⟩
abbrev cX7_as : ByteArray := prog_1_method_4_code
def yX7_as : MethodName := ⟨RX7, "as", "(II)I"⟩
abbrev cX7_lasts : ByteArray := prog_1_method_5_code
def yX7_lasts : MethodName := ⟨RX7, "lasts", "(III)I"⟩
abbrev cX7_number : ByteArray := prog_1_method_6_code
def yX7_number : MethodName := ⟨RX7, "number", "(II)I"⟩
abbrev cX7_tie : ByteArray := prog_1_method_7_code
def yX7_tie : MethodName := ⟨RX7, "tie", "(IIIIII)I"⟩
abbrev cX7_sky : ByteArray := prog_1_method_8_code
def yX7_sky : MethodName := ⟨RX7, "sky", "(IIIIII)I"⟩
abbrev cX7_ring : ByteArray := prog_1_method_9_code
def yX7_ring : MethodName := ⟨RX7, "ring", "(IIII)I"⟩
abbrev cX7_letter : ByteArray := prog_1_method_10_code
def yX7_letter : MethodName := ⟨RX7, "letter", "(IIIII)I"⟩
abbrev cX7_tied : ByteArray := prog_1_method_11_code
def yX7_tied : MethodName := ⟨RX7, "tied", "(II)I"⟩
abbrev cX7_undo : ByteArray := prog_1_method_12_code
def yX7_undo : MethodName := ⟨RX7, "undo", "()I"⟩
abbrev cX7_letters : ByteArray := prog_1_method_13_code
def yX7_letters : MethodName := ⟨RX7, "letters", "(J)I"⟩
abbrev cX7_blank : ByteArray := prog_1_method_14_code
def yX7_blank : MethodName := ⟨RX7, "blank", "()I"⟩
abbrev cX7_fault : ByteArray := prog_1_method_15_code
def yX7_fault : MethodName := ⟨RX7, "fault", "()I"⟩
abbrev cX7_text : ByteArray := prog_1_method_16_code
def yX7_text : MethodName := ⟨RX7, "text", "(I)I"⟩
abbrev cX7_strike : ByteArray := prog_1_method_17_code
def yX7_strike : MethodName := ⟨RX7, "strike", "(I)I"⟩
abbrev cX7_counts : ByteArray := prog_1_method_18_code
def yX7_counts : MethodName := ⟨RX7, "counts", "(II)I"⟩
abbrev cX7_believes : ByteArray := prog_1_method_19_code
def yX7_believes : MethodName := ⟨RX7, "believes", "(II)I"⟩
abbrev cX7_can : ByteArray := prog_1_method_20_code
def yX7_can : MethodName := ⟨RX7, "can", "(II)I"⟩
abbrev cX7_span : ByteArray := prog_1_method_21_code
def yX7_span : MethodName := ⟨RX7, "span", "(IIII)I"⟩
abbrev cX7_held : ByteArray := prog_1_method_22_code
def yX7_held : MethodName := ⟨RX7, "held", "(IIII)I"⟩
abbrev cX7_doubt : ByteArray := prog_1_method_23_code
def yX7_doubt : MethodName := ⟨RX7, "doubt", "(III)I"⟩
abbrev cX7_floats : ByteArray := prog_1_method_24_code
def yX7_floats : MethodName := ⟨RX7, "floats", "(II)I"⟩
abbrev cX7_open : ByteArray := prog_1_method_25_code
def yX7_open : MethodName := ⟨RX7, "open", "(II)I"⟩
abbrev cX7_part : ByteArray := prog_1_method_26_code
def yX7_part : MethodName := ⟨RX7, "part", "()I"⟩
abbrev cX7_wish : ByteArray := prog_1_method_27_code
def yX7_wish : MethodName := ⟨RX7, "wish", "(IIIII)I"⟩
abbrev cX7_closes : ByteArray := prog_1_method_28_code
def yX7_closes : MethodName := ⟨RX7, "closes", "(III)I"⟩
abbrev cX7_best : ByteArray := prog_1_method_29_code
def yX7_best : MethodName := ⟨RX7, "best", "(II)I"⟩
abbrev cX7_tell : ByteArray := prog_1_method_30_code
def yX7_tell : MethodName := ⟨RX7, "tell", "(II)I"⟩
abbrev cX7_judge : ByteArray := prog_1_method_31_code
def yX7_judge : MethodName := ⟨RX7, "judge", "(I)I"⟩
abbrev cX7_count : ByteArray := prog_1_method_32_code
def yX7_count : MethodName := ⟨RX7, "count", "(I)I"⟩
abbrev cX7_digest : ByteArray := prog_1_method_33_code
def yX7_digest : MethodName := ⟨RX7, "digest", "()J"⟩
abbrev cX7_sayingsDigest : ByteArray := prog_1_method_34_code
def yX7_sayingsDigest : MethodName := ⟨RX7, "sayingsDigest", "(JI)J"⟩
abbrev cX7_within : ByteArray := prog_1_method_35_code
def yX7_within : MethodName := ⟨RX7, "within", "(III)Z"⟩
abbrev cX7_isYear : ByteArray := prog_1_method_36_code
def yX7_isYear : MethodName := ⟨RX7, "isYear", "(I)Z"⟩
abbrev cX7_arePlaces : ByteArray := prog_1_method_37_code
def yX7_arePlaces : MethodName := ⟨RX7, "arePlaces", "(II)Z"⟩
abbrev cX7_arePair : ByteArray := prog_1_method_38_code
def yX7_arePair : MethodName := ⟨RX7, "arePair", "(II)Z"⟩
abbrev cX7_isSchool : ByteArray := prog_1_method_39_code
def yX7_isSchool : MethodName := ⟨RX7, "isSchool", "(I)Z"⟩
abbrev cX7_refusal : ByteArray := prog_1_method_40_code
def yX7_refusal : MethodName := ⟨RX7, "refusal", "(II)I"⟩
abbrev cX7_schoolOf : ByteArray := prog_1_method_41_code
def yX7_schoolOf : MethodName := ⟨RX7, "schoolOf", "(I)LReignLadders$School;"⟩
abbrev cX7_countFor : ByteArray := prog_1_method_42_code
def yX7_countFor : MethodName := ⟨RX7, "countFor", "(II)I"⟩
abbrev cX7_beliefFor : ByteArray := prog_1_method_43_code
def yX7_beliefFor : MethodName := ⟨RX7, "beliefFor", "(II)I"⟩
abbrev cX7_believedBy : ByteArray := prog_1_method_44_code
def yX7_believedBy : MethodName := ⟨RX7, "believedBy", "(II)I"⟩
abbrev cX7_lay : ByteArray := prog_1_method_45_code
def yX7_lay : MethodName := ⟨RX7, "lay", "(II)I"⟩
abbrev cX7_holders : ByteArray := prog_1_method_46_code
def yX7_holders : MethodName := ⟨RX7, "holders", "(III)I"⟩
abbrev cX7_doubted : ByteArray := prog_1_method_47_code
def yX7_doubted : MethodName := ⟨RX7, "doubted", "(II)I"⟩
abbrev cX7_afloat : ByteArray := prog_1_method_48_code
def yX7_afloat : MethodName := ⟨RX7, "afloat", "(II)I"⟩
abbrev cX7_gain : ByteArray := prog_1_method_49_code
def yX7_gain : MethodName := ⟨RX7, "gain", "(IIII)I"⟩
abbrev cX7_at : ByteArray := prog_1_method_50_code
def yX7_at : MethodName := ⟨RX7, "at", "([II)I"⟩
abbrev cX7_put : ByteArray := prog_1_method_51_code
def yX7_put : MethodName := ⟨RX7, "put", "([III)V"⟩
def RX8 : String := "ReignLaddersModel"
def TX8 : u_T := fun k => match k with
  | 0 => ("ReignLaddersModel", "reigns", "I", false)
  | 1 => ("ReignLaddersModel", "landOf", "[I", true)
  | 2 => ("ReignLaddersModel", "kindOf", "[I", true)
  | 3 => ("ReignLaddersModel", "numberOf", "[I", true)
  | 4 => ("ReignLaddersModel", "otherOf", "[I", true)
  | 5 => ("ReignLaddersModel", "editionOf", "[I", true)
  | 6 => ("ReignLaddersModel", "aheadOf", "[I", true)
  | 7 => ("ReignLaddersModel", "toldYear", "[I", true)
  | 8 => ("ReignLaddersModel", "ties", "I", false)
  | 9 => ("ReignLaddersModel", "tieOf", "[I", true)
  | 10 => ("ReignLaddersModel", "yearOf", "[I", true)
  | 11 => ("ReignLaddersModel", "pageLength", "I", false)
  | 12 => ("ReignLaddersModel", "page", "[B", true)
  | 13 => ("ReignLaddersModel", "texts", "[I", true)
  | 14 => ("ReignLaddersModel", "textOf", "[B", true)
  | 15 => ("ReignLaddersModel", "textSize", "[I", true)
  | 16 => ("ReignLaddersModel", "wishes", "I", false)
  | 17 => ("ReignLaddersModel", "wishOf", "[I", true)
  | 18 => ("ReignLaddersModel", "doubtDone", "I", false)
  | 19 => ("ReignLaddersModel", "faultAt", "I", false)
  | 20 => ("ReignLaddersModel", "isWhole", "Z", false)
  | 21 => ("ReignLaddersModel", "of", "[I", true)
  | 22 => ("ReignLaddersModel", "anyTerm", "[Z", true)
  | 23 => ("ReignLaddersModel", "allFactors", "[Z", true)
  | 24 => ("ReignLaddersModel", "isDenied", "[Z", true)
  | 25 => ("ReignLaddersModel", "deep", "I", false)
  | 26 => ("ReignLaddersModel", "most", "[I", true)
  | 27 => ("ReignLaddersModel", "counted", "[I", true)
  | 28 => ("ReignLaddersModel", "low", "[I", true)
  | 29 => ("ReignLaddersModel", "high", "[I", true)
  | 30 => ("ReignLaddersModel", "isFound", "Z", false)
  | 31 => ("ReignLaddersModel", "firstLow", "[I", true)
  | 32 => ("ReignLaddersModel", "firstHigh", "[I", true)
  | _ => ("ReignLaddersModel", "h", "J", false)
def tyX8 : Nat → FieldType := fun k => match k with
  | 0 => .int
  | 1 => .array .int
  | 2 => .array .int
  | 3 => .array .int
  | 4 => .array .int
  | 5 => .array .int
  | 6 => .array .int
  | 7 => .array .int
  | 8 => .int
  | 9 => .array .int
  | 10 => .array .int
  | 11 => .int
  | 12 => .array .byte
  | 13 => .array .int
  | 14 => .array .byte
  | 15 => .array .int
  | 16 => .int
  | 17 => .array .int
  | 18 => .int
  | 19 => .int
  | 20 => .boolean
  | 21 => .array .int
  | 22 => .array .boolean
  | 23 => .array .boolean
  | 24 => .array .boolean
  | 25 => .int
  | 26 => .array .int
  | 27 => .array .int
  | 28 => .array .int
  | 29 => .array .int
  | 30 => .boolean
  | 31 => .array .int
  | 32 => .array .int
  | _ => .long
abbrev wsX80 : List Cond := u_ws RX8 TX8 34
theorem nmX8 : ∀ a, a < 34 → ∀ b, b < 34 → a ≠ b → (TX8 a).2.1 ≠ (TX8 b).2.1 := by decide +kernel
theorem tyX8_ok : ∀ k, k < 34 → parseFieldDescriptor (TX8 k).2.2.1 = some (tyX8 k) := by decide +kernel
abbrev cX8_init : ByteArray := prog_10_method_1_code
def yX8_init : MethodName := ⟨RX8, "<init>", "()V"⟩
abbrev cX8_lies : ByteArray := prog_10_method_3_code
def yX8_lies : MethodName := ⟨RX8, "lies", "(III)Z"⟩
abbrev cX8_isReign : ByteArray := prog_10_method_4_code
def yX8_isReign : MethodName := ⟨RX8, "isReign", "(I)Z"⟩
abbrev cX8_isEdition : ByteArray := prog_10_method_5_code
def yX8_isEdition : MethodName := ⟨RX8, "isEdition", "(I)Z"⟩
abbrev cX8_isYear : ByteArray := prog_10_method_6_code
def yX8_isYear : MethodName := ⟨RX8, "isYear", "(I)Z"⟩
abbrev cX8_lastOf : ByteArray := prog_10_method_7_code
def yX8_lastOf : MethodName := ⟨RX8, "lastOf", "(I)I"⟩
abbrev cX8_isMisread : ByteArray := prog_10_method_8_code
def yX8_isMisread : MethodName := ⟨RX8, "isMisread", "(I)Z"⟩
abbrev cX8_reign : ByteArray := prog_10_method_9_code
def yX8_reign : MethodName := ⟨RX8, "reign", "(IIIII)I"⟩
abbrev cX8_aboutOf : ByteArray := prog_10_method_10_code
def yX8_aboutOf : MethodName := ⟨RX8, "aboutOf", "(II)I"⟩
abbrev cX8_about : ByteArray := prog_10_method_11_code
def yX8_about : MethodName := ⟨RX8, "about", "(II)I"⟩
abbrev cX8_as : ByteArray := prog_10_method_12_code
def yX8_as : MethodName := ⟨RX8, "as", "(II)I"⟩
abbrev cX8_otherLength : ByteArray := prog_10_method_13_code
def yX8_otherLength : MethodName := ⟨RX8, "otherLength", "(II)I"⟩
abbrev cX8_leastOf : ByteArray := prog_10_method_14_code
def yX8_leastOf : MethodName := ⟨RX8, "leastOf", "(II)I"⟩
abbrev cX8_mostOf : ByteArray := prog_10_method_15_code
def yX8_mostOf : MethodName := ⟨RX8, "mostOf", "(II)I"⟩
abbrev cX8_lengthsOf : ByteArray := prog_10_method_16_code
def yX8_lengthsOf : MethodName := ⟨RX8, "lengthsOf", "(II)I"⟩
abbrev cX8_lasts : ByteArray := prog_10_method_17_code
def yX8_lasts : MethodName := ⟨RX8, "lasts", "(III)I"⟩
abbrev cX8_number : ByteArray := prog_10_method_18_code
def yX8_number : MethodName := ⟨RX8, "number", "(II)I"⟩
abbrev cX8_come : ByteArray := prog_10_method_19_code
def yX8_come : MethodName := ⟨RX8, "come", "(IIIIIII)I"⟩
abbrev cX8_isXth : ByteArray := prog_10_method_20_code
def yX8_isXth : MethodName := ⟨RX8, "isXth", "(I)Z"⟩
abbrev cX8_tie : ByteArray := prog_10_method_21_code
def yX8_tie : MethodName := ⟨RX8, "tie", "(IIIIII)I"⟩
abbrev cX8_sky : ByteArray := prog_10_method_22_code
def yX8_sky : MethodName := ⟨RX8, "sky", "(IIIIII)I"⟩
abbrev cX8_ring : ByteArray := prog_10_method_23_code
def yX8_ring : MethodName := ⟨RX8, "ring", "(IIII)I"⟩
abbrev cX8_letter : ByteArray := prog_10_method_24_code
def yX8_letter : MethodName := ⟨RX8, "letter", "(IIIII)I"⟩
abbrev cX8_isTie : ByteArray := prog_10_method_25_code
def yX8_isTie : MethodName := ⟨RX8, "isTie", "(I)Z"⟩
abbrev cX8_tied : ByteArray := prog_10_method_26_code
def yX8_tied : MethodName := ⟨RX8, "tied", "(II)I"⟩
abbrev cX8_undo : ByteArray := prog_10_method_27_code
def yX8_undo : MethodName := ⟨RX8, "undo", "()I"⟩
abbrev cX8_letters : ByteArray := prog_10_method_28_code
def yX8_letters : MethodName := ⟨RX8, "letters", "(J)I"⟩
abbrev cX8_blank : ByteArray := prog_10_method_29_code
def yX8_blank : MethodName := ⟨RX8, "blank", "()I"⟩
abbrev cX8_isName : ByteArray := prog_10_method_30_code
def yX8_isName : MethodName := ⟨RX8, "isName", "(I)Z"⟩
abbrev cX8_next : ByteArray := prog_10_method_31_code
def yX8_next : MethodName := ⟨RX8, "next", "(III)I"⟩
abbrev cX8_readText : ByteArray := prog_10_method_32_code
def yX8_readText : MethodName := ⟨RX8, "readText", "()V"⟩
abbrev cX8_fault : ByteArray := prog_10_method_33_code
def yX8_fault : MethodName := ⟨RX8, "fault", "()I"⟩
abbrev cX8_isSchool : ByteArray := prog_10_method_34_code
def yX8_isSchool : MethodName := ⟨RX8, "isSchool", "(I)Z"⟩
abbrev cX8_text : ByteArray := prog_10_method_35_code
def yX8_text : MethodName := ⟨RX8, "text", "(I)I"⟩
abbrev cX8_strike : ByteArray := prog_10_method_36_code
def yX8_strike : MethodName := ⟨RX8, "strike", "(I)I"⟩
abbrev cX8_openGroup : ByteArray := prog_10_method_37_code
def yX8_openGroup : MethodName := ⟨RX8, "openGroup", "()V"⟩
abbrev cX8_factor : ByteArray := prog_10_method_38_code
def yX8_factor : MethodName := ⟨RX8, "factor", "(Z)V"⟩
abbrev cX8_placeOf : ByteArray := prog_10_method_39_code
def yX8_placeOf : MethodName := ⟨RX8, "placeOf", "(I)I"⟩
abbrev cX8_holds : ByteArray := prog_10_method_40_code
def yX8_holds : MethodName := ⟨RX8, "holds", "(I)Z"⟩
abbrev cX8_saysOf : ByteArray := prog_10_method_41_code
def yX8_saysOf : MethodName := ⟨RX8, "saysOf", "(III)I"⟩
abbrev cX8_countsOf : ByteArray := prog_10_method_42_code
def yX8_countsOf : MethodName := ⟨RX8, "countsOf", "(II)I"⟩
abbrev cX8_believesOf : ByteArray := prog_10_method_43_code
def yX8_believesOf : MethodName := ⟨RX8, "believesOf", "(II)I"⟩
abbrev cX8_counts : ByteArray := prog_10_method_44_code
def yX8_counts : MethodName := ⟨RX8, "counts", "(II)I"⟩
abbrev cX8_believes : ByteArray := prog_10_method_45_code
def yX8_believes : MethodName := ⟨RX8, "believes", "(II)I"⟩
abbrev cX8_isKnown : ByteArray := prog_10_method_46_code
def yX8_isKnown : MethodName := ⟨RX8, "isKnown", "(II)Z"⟩
abbrev cX8_tiesOf : ByteArray := prog_10_method_47_code
def yX8_tiesOf : MethodName := ⟨RX8, "tiesOf", "(II)I"⟩
abbrev cX8_bind : ByteArray := prog_10_method_48_code
def yX8_bind : MethodName := ⟨RX8, "bind", "(IIII)V"⟩
abbrev cX8_closeWays : ByteArray := prog_10_method_49_code
def yX8_closeWays : MethodName := ⟨RX8, "closeWays", "()Z"⟩
abbrev cX8_layChoice : ByteArray := prog_10_method_50_code
def yX8_layChoice : MethodName := ⟨RX8, "layChoice", "(II)Z"⟩
abbrev cX8_misreadAhead : ByteArray := prog_10_method_51_code
def yX8_misreadAhead : MethodName := ⟨RX8, "misreadAhead", "(I)I"⟩
abbrev cX8_layTie : ByteArray := prog_10_method_52_code
def yX8_layTie : MethodName := ⟨RX8, "layTie", "(II)V"⟩
abbrev cX8_solve : ByteArray := prog_10_method_53_code
def yX8_solve : MethodName := ⟨RX8, "solve", "(IIII)V"⟩
abbrev cX8_take : ByteArray := prog_10_method_54_code
def yX8_take : MethodName := ⟨RX8, "take", "(I)V"⟩
abbrev cX8_can : ByteArray := prog_10_method_55_code
def yX8_can : MethodName := ⟨RX8, "can", "(II)I"⟩
abbrev cX8_span : ByteArray := prog_10_method_56_code
def yX8_span : MethodName := ⟨RX8, "span", "(IIII)I"⟩
abbrev cX8_held : ByteArray := prog_10_method_57_code
def yX8_held : MethodName := ⟨RX8, "held", "(IIII)I"⟩
abbrev cX8_ones : ByteArray := prog_10_method_58_code
def yX8_ones : MethodName := ⟨RX8, "ones", "(I)I"⟩
abbrev cX8_doubt : ByteArray := prog_10_method_59_code
def yX8_doubt : MethodName := ⟨RX8, "doubt", "(III)I"⟩
abbrev cX8_floatsOf : ByteArray := prog_10_method_60_code
def yX8_floatsOf : MethodName := ⟨RX8, "floatsOf", "(II)I"⟩
abbrev cX8_floats : ByteArray := prog_10_method_61_code
def yX8_floats : MethodName := ⟨RX8, "floats", "(II)I"⟩
abbrev cX8_openNow : ByteArray := prog_10_method_62_code
def yX8_openNow : MethodName := ⟨RX8, "openNow", "(I)I"⟩
abbrev cX8_open : ByteArray := prog_10_method_63_code
def yX8_open : MethodName := ⟨RX8, "open", "(II)I"⟩
abbrev cX8_part : ByteArray := prog_10_method_64_code
def yX8_part : MethodName := ⟨RX8, "part", "()I"⟩
abbrev cX8_wish : ByteArray := prog_10_method_65_code
def yX8_wish : MethodName := ⟨RX8, "wish", "(IIIII)I"⟩
abbrev cX8_closesOf : ByteArray := prog_10_method_66_code
def yX8_closesOf : MethodName := ⟨RX8, "closesOf", "(III)I"⟩
abbrev cX8_closes : ByteArray := prog_10_method_67_code
def yX8_closes : MethodName := ⟨RX8, "closes", "(III)I"⟩
abbrev cX8_best : ByteArray := prog_10_method_68_code
def yX8_best : MethodName := ⟨RX8, "best", "(II)I"⟩
abbrev cX8_tell : ByteArray := prog_10_method_69_code
def yX8_tell : MethodName := ⟨RX8, "tell", "(II)I"⟩
abbrev cX8_mayLast : ByteArray := prog_10_method_70_code
def yX8_mayLast : MethodName := ⟨RX8, "mayLast", "(III)Z"⟩
abbrev cX8_holdsTold : ByteArray := prog_10_method_71_code
def yX8_holdsTold : MethodName := ⟨RX8, "holdsTold", "(I)Z"⟩
abbrev cX8_judge : ByteArray := prog_10_method_72_code
def yX8_judge : MethodName := ⟨RX8, "judge", "(I)I"⟩
abbrev cX8_howMany : ByteArray := prog_10_method_73_code
def yX8_howMany : MethodName := ⟨RX8, "howMany", "(I)I"⟩
abbrev cX8_count : ByteArray := prog_10_method_74_code
def yX8_count : MethodName := ⟨RX8, "count", "(I)I"⟩
abbrev cX8_mix : ByteArray := prog_10_method_75_code
def yX8_mix : MethodName := ⟨RX8, "mix", "(J)V"⟩
abbrev cX8_digest : ByteArray := prog_10_method_76_code
def yX8_digest : MethodName := ⟨RX8, "digest", "()J"⟩
def RL : String := "ReignLaddersLaw"
abbrev cL_law : ByteArray := code
abbrev vwCl : List vw_C := [(RX0, TX0, 2), (RX1, TX1, 18), (RX2, TX2, 4), (RX3, TX3, 5), (RX4, TX4, 3), (RX5, TX5, 7), (RX6, TX6, 5), (RX7, TX7, 9), (RX8, TX8, 34)]
end
section
/-! whole numbers for machine ints -/
abbrev inR (a : Int) : Prop := -2147483648 ≤ a ∧ a ≤ 2147483647
abbrev inL (a : Int) : Prop := -9223372036854775808 ≤ a ∧ a ≤ 9223372036854775807
abbrev iv (a : Int) : Value := .int (Int32.ofInt a)
abbrev lq (a : Int) : Value := .long (Int64.ofInt a)
theorem iv_min : Int32.minValue.toInt = -2147483648 := by decide
theorem iv_max : Int32.maxValue.toInt = 2147483647 := by decide
theorem iv_toInt {a : Int} (h : inR a) : (Int32.ofInt a).toInt = a := Int32.toInt_ofInt_of_le (by omega) (by omega)
theorem iv_le {a b : Int} (ha : inR a) (hb : inR b) : Int32.ofInt a ≤ Int32.ofInt b ↔ a ≤ b := Int32.ofInt_le_iff_le (by rw [iv_min]; exact ha.1) (by rw [iv_max]; exact ha.2) (by rw [iv_min]; exact hb.1) (by rw [iv_max]; exact hb.2)
theorem iv_lt {a b : Int} (ha : inR a) (hb : inR b) : Int32.ofInt a < Int32.ofInt b ↔ a < b := Int32.ofInt_lt_iff_lt (by rw [iv_min]; exact ha.1) (by rw [iv_max]; exact ha.2) (by rw [iv_min]; exact hb.1) (by rw [iv_max]; exact hb.2)
theorem iv_eq {a b : Int} (ha : inR a) (hb : inR b) : Int32.ofInt a = Int32.ofInt b ↔ a = b := ⟨fun h => by have := congrArg Int32.toInt h; rwa [iv_toInt ha, iv_toInt hb] at this, fun h => by rw [h]⟩
theorem iv_zero : (0 : Int32) = Int32.ofInt 0 := by decide
theorem iv_in {i : Int} {n : Nat} (h : inR i) (h0 : 0 ≤ i) (h1 : i < n) : vp_in (Int32.ofInt i) n := vp_in_iff.mpr (by rw [iv_toInt h]; exact ⟨h0, h1⟩)
theorem iv_clamp {i : Int} (h : inR i) : (Int32.ofInt i).toNatClampNeg = i.toNat := Int32.toNatClampNeg_ofInt_of_le (by omega) (by omega)
/-! the tables' words that a contract carries -/
def tb0 : List Cond := lw_tbl.filter goodWord
theorem tb_in {w : Cond} (i : Nat) (h : lw_tbl[i]? = some w) (hg : goodWord w = true) : w ∈ tb0 := List.mem_filter.mpr ⟨List.mem_of_getElem? h, hg⟩
theorem tb_good (y : MethodName) (cc : ByteArray) (n : Nat) (ret : Option FieldType) {Ts : List Cond} (hT : ∀ w ∈ tb0, w ∈ Ts) (hc : Cond.code y cc n ret ∈ tb0) : GoodIn Ts (Cond.code y cc n ret :: tb0) := by
  intro w hw
  rcases List.mem_cons.mp hw with h | h
  · subst h
    exact ⟨hT _ hc, good_of_word (List.mem_filter.mp hc).2⟩
  · exact ⟨hT _ h, good_of_word (List.mem_filter.mp h).2⟩
def nst : List (String × Nat × MethodName × String) := lw_tbl.filterMap fun c => match c with
  | .methodLinkNest a i x h => some (a, i, x, h)
  | _ => none
def NWs (U : State) : Prop := ∀ q ∈ nst, va_Nw (.methodLinkNest q.1 q.2.1 q.2.2.1 q.2.2.2) U
theorem NWs.warm {s U : State} (hW : s.WarmedH U.vm) (h : NWs s) : NWs U := fun q hq => va_Nw.warmM hW (h q hq)
theorem NWs.same {u U : State} (hv : u.vm = U.vm) (h : NWs u) : NWs U := fun q hq => va_Nw.same rfl hv (h q hq)
/-! a side's world: cell and place to a whole number; its shape: arrays (kind of element, length) and objects (class, a code for each field: 0 int, 1 long, 2 boolean, k + 3 a reference to cell k) -/
abbrev Wd : Type := Nat → Int → Int
abbrev Shp : Type := (Nat × Nat) ⊕ (Nat × List Nat)
abbrev Gc : Type := Launch × (Nat → Nat) × va_G × (Nat → ClassId) × (Nat → Shp) × Nat
abbrev gl (G : Gc) : Launch := G.1
abbrev ga (G : Gc) : Nat → Nat := G.2.1
abbrev gD (G : Gc) : va_G := G.2.2.1
abbrev gt (G : Gc) : Nat → ClassId := G.2.2.2.1
abbrev gS (G : Gc) : Nat → Shp := G.2.2.2.2.1
abbrev gn (G : Gc) : Nat := G.2.2.2.2.2
abbrev gT (G : Gc) : List (ClassId × FieldType) := [(gt G 0, .int), (gt G 1, .byte), (gt G 2, .boolean)]
def fv (G : Gc) (w : Wd) (k : Nat) (j : Nat) (c : Nat) : Value := match c with
  | 0 => iv (w k j)
  | 1 => lq (w k j)
  | 2 => iv (w k j)
  | t + 3 => .ref (ga G t)
def fvs (G : Gc) (w : Wd) (k : Nat) : Nat → List Nat → List Value
  | _, [] => []
  | j, c :: t => fv G w k j c :: fvs G w k (j + 1) t
theorem fvs_get (G : Gc) (w : Wd) (k : Nat) : ∀ (l : List Nat) (j i : Nat), (fvs G w k j l)[i]? = (l[i]?).map (fun c => fv G w k (j + i) c)
  | [], _, i => by simp [fvs]
  | c :: t, j, 0 => by simp [fvs]
  | c :: t, j, i + 1 => by simp only [fvs, List.getElem?_cons_succ, fvs_get G w k t (j + 1) i]; rw [show j + 1 + i = j + (i + 1) by omega]
theorem fvs_len (G : Gc) (w : Wd) (k : Nat) : ∀ (l : List Nat) (j : Nat), (fvs G w k j l).length = l.length
  | [], _ => rfl
  | c :: t, j => by simp only [fvs, List.length_cons, fvs_len G w k t (j + 1)]
def cel (G : Gc) (w : Wd) (k : Nat) : va_E := match gS G k with
  | .inl q => .inl (gt G q.1, (q.2, .inl (fun j => Int32.ofInt (w k (j : Int)))))
  | .inr q => .inr (q.1, fvs G w k 0 q.2)
def cels (G : Gc) (w : Wd) : va_W := (List.range (gn G)).map fun k => (ga G k, cel G w k)
theorem cels_get {G : Gc} {w : Wd} {k : Nat} (h : k < gn G) : (cels G w)[k]? = some (ga G k, cel G w k) := by simp [cels, h]
theorem cel_A {G : Gc} {w : Wd} {k t n : Nat} (h : gS G k = .inl (t, n)) : cel G w k = .inl (gt G t, (n, .inl (fun j => Int32.ofInt (w k (j : Int))))) := by simp only [cel, h]
theorem cel_O {G : Gc} {w : Wd} {k ci : Nat} {fs : List Nat} (h : gS G k = .inr (ci, fs)) : cel G w k = .inr (ci, fvs G w k 0 fs) := by simp only [cel, h]
def up (w : Wd) (k : Nat) (i v : Int) : Wd := fun k' i' => if k' = k ∧ i' = i then v else w k' i'
theorem up_self (w : Wd) (k : Nat) (i v : Int) : up w k i v k i = v := by simp [up]
theorem up_cell {w : Wd} {k k' : Nat} {i v : Int} (h : k' ≠ k) : up w k i v k' = w k' := by funext j; simp [up, h]
theorem up_ne {w : Wd} {k k' : Nat} {i j v : Int} (h : ¬ (k' = k ∧ j = i)) : up w k i v k' j = w k' j := by simp [up, h]
theorem cel_ext {G : Gc} {w w' : Wd} {k : Nat} (h : ∀ i, w' k i = w k i) : cel G w' k = cel G w k := by
  have e : w' k = w k := funext h
  unfold cel
  cases gS G k with
  | inl q => simp only [e]
  | inr q =>
    have : ∀ (l : List Nat) (j : Nat), fvs G w' k j l = fvs G w k j l := by
      intro l
      induction l with
      | nil => intro j; rfl
      | cons c t ih => intro j; simp only [fvs, ih]; congr 1; unfold fv; simp only [e]
    simp only [this]
theorem cels_upd {G : Gc} {w w' : Wd} {k : Nat} {e : va_E} (hw : ∀ k', k' ≠ k → w' k' = w k') (he : cel G w' k = e) : (cels G w).set k (ga G k, e) = cels G w' := by
  apply List.ext_getElem?
  intro j
  by_cases hj : j < gn G
  · by_cases hk : j = k
    · subst hk
      rw [List.getElem?_set_self (by simp [cels]; exact hj), cels_get hj, he]
    · rw [List.getElem?_set_ne (Ne.symm hk), cels_get hj, cels_get hj, cel_ext (fun i => congrFun (hw j hk) i)]
  · rw [List.getElem?_eq_none (by simp [cels]; omega), List.getElem?_eq_none (by simp [cels]; omega)]
/-! ranges: what a cell holds is in the range of its kind -/
def rT (t : Nat) (a : Int) : Prop := match t with
  | 0 => inR a
  | 1 => -128 ≤ a ∧ a ≤ 127
  | _ => 0 ≤ a ∧ a ≤ 1
def rF (c : Nat) (a : Int) : Prop := match c with
  | 0 => inR a
  | 1 => inL a
  | 2 => 0 ≤ a ∧ a ≤ 1
  | _ => True
def okW (G : Gc) (w : Wd) : Prop := (∀ k t n, gS G k = .inl (t, n) → ∀ i : Int, 0 ≤ i → i < n → rT t (w k i)) ∧ ∀ k ci fs, gS G k = .inr (ci, fs) → ∀ j c, fs[j]? = some c → rF c (w k (j : Nat))
theorem okW.upA {G : Gc} {w : Wd} (h : okW G w) {k t n : Nat} (hs : gS G k = .inl (t, n)) {i v : Int} (hv : rT t v) : okW G (up w k i v) := by
  refine ⟨fun k' t' n' hs' j h0 h1 => ?_, fun k' ci fs hs' j c hc => ?_⟩
  · by_cases e : k' = k ∧ j = i
    · obtain ⟨rfl, rfl⟩ := e
      rw [hs] at hs'
      cases hs'
      rw [up_self]; exact hv
    · rw [up_ne e]; exact h.1 k' t' n' hs' j h0 h1
  · by_cases e : k' = k
    · subst e
      rw [hs] at hs'
      cases hs'
    · rw [up_ne (fun q => e q.1)]; exact h.2 k' ci fs hs' j c hc
theorem okW.upF {G : Gc} {w : Wd} (h : okW G w) {k ci j c : Nat} {fs : List Nat} (hs : gS G k = .inr (ci, fs)) (hc : fs[j]? = some c) {v : Int} (hv : rF c v) : okW G (up w k (j : Nat) v) := by
  refine ⟨fun k' t' n' hs' i h0 h1 => ?_, fun k' ci' fs' hs' j' c' hc' => ?_⟩
  · by_cases e : k' = k
    · subst e
      rw [hs] at hs'
      cases hs'
    · rw [up_ne (fun q => e q.1)]; exact h.1 k' t' n' hs' i h0 h1
  · by_cases e : k' = k ∧ ((j' : Nat) : Int) = (j : Nat)
    · obtain ⟨rfl, e2⟩ := e
      have : j' = j := by omega
      subst this
      rw [hs] at hs'
      cases hs'
      rw [hc] at hc'
      cases hc'
      rw [up_self]; exact hv
    · rw [up_ne e]; exact h.2 k' ci' fs' hs' j' c' hc'
/-! locals, by place -/
def lg : List (Option Value) → Nat → Option Value
  | [], _ => none
  | x :: _, 0 => x
  | _ :: t, i + 1 => lg t i
def lst : List (Option Value) → Nat → Option Value → List (Option Value)
  | [], 0, v => [v]
  | [], i + 1, v => none :: lst [] i v
  | _ :: t, 0, v => v :: t
  | x :: t, i + 1, v => x :: lst t i v
theorem lg_nil (i : Nat) : lg [] i = none := by cases i <;> rfl
theorem lg_lst : ∀ (i : Nat) (l : List (Option Value)) (v : Option Value) (j : Nat), lg (lst l i v) j = if j = i then v else lg l j
  | 0, [], v, 0 => rfl
  | 0, [], v, j + 1 => by simp [lst, lg]
  | 0, x :: t, v, 0 => rfl
  | 0, x :: t, v, j + 1 => by simp [lst, lg]
  | i + 1, [], v, 0 => by simp [lst, lg]
  | i + 1, [], v, j + 1 => by simp [lst, lg, lg_lst i [] v j, lg_nil]
  | i + 1, x :: t, v, 0 => by simp [lst, lg]
  | i + 1, x :: t, v, j + 1 => by simp [lst, lg, lg_lst i t v j]
def isL (v : Option Value) : Bool := match v with
  | some (.long _) => true
  | some (.double _) => true
  | _ => false
def okst (l : List (Option Value)) (i : Nat) : Bool := match i with
  | 0 => true
  | j + 1 => !(isL (lg l j))
theorem isL_cat {v : Value} (h : v.category = 2) : isL (some v) = true := by cases v <;> simp [Value.category, isL] at h ⊢
def lh (ls : Array Slot) (nL : Nat) (l : List (Option Value)) : Prop := ls.size = nL ∧ lv_wf ls ∧ ∀ i v, lg l i = some v → ls[i]? = some (.val v)
def asc : Nat → List (Option Value) → List (Nat × Value)
  | _, [] => []
  | k, none :: t => asc (k + 1) t
  | k, some v :: t => (k, v) :: asc (k + 1) t
theorem asc_mem : ∀ (l : List (Option Value)) (k i : Nat) (v : Value), (i, v) ∈ asc k l ↔ ∃ j, i = k + j ∧ lg l j = some v
  | [], k, i, v => by simp [asc, lg_nil]
  | none :: t, k, i, v => by
    rw [show asc k (none :: t) = asc (k + 1) t from rfl, asc_mem t (k + 1) i v]
    constructor
    · rintro ⟨j, h1, h2⟩; exact ⟨j + 1, by omega, h2⟩
    · rintro ⟨j, h1, h2⟩
      cases j with
      | zero => simp [lg] at h2
      | succ j => exact ⟨j, by omega, h2⟩
  | some u :: t, k, i, v => by
    rw [show asc k (some u :: t) = (k, u) :: asc (k + 1) t from rfl, List.mem_cons, asc_mem t (k + 1) i v]
    constructor
    · rintro (h | ⟨j, h1, h2⟩)
      · cases h; exact ⟨0, by omega, rfl⟩
      · exact ⟨j + 1, by omega, h2⟩
    · rintro ⟨j, h1, h2⟩
      cases j with
      | zero => simp only [lg, Option.some.injEq] at h2; left; rw [h1, h2]; rfl
      | succ j => right; exact ⟨j, by omega, h2⟩
theorem lh.has {ls : Array Slot} {nL : Nat} {l : List (Option Value)} (h : lh ls nL l) : lv_has ls nL (asc 0 l) := ⟨h.1, h.2.1, fun q hq => by
  obtain ⟨i, v⟩ := q
  obtain ⟨j, h1, h2⟩ := (asc_mem l 0 i v).mp hq
  have : i = j := by omega
  subst this
  exact h.2.2 _ _ h2⟩
theorem lh.at {ls : Array Slot} {nL : Nat} {l : List (Option Value)} (h : lh ls nL l) {i : Nat} {v : Value} (e : lg l i = some v) : ls[i]? = some (.val v) := h.2.2 i v e
theorem lh_st1 {ls' : Array Slot} {nL i : Nat} {v : Value} {l : List (Option Value)} (ho : okst l i = true) (h : lv_has ls' nL ((i, v) :: (asc 0 l).filter (fun q => !(q.1 == i) && !(q.1 + 1 == i && q.2.category == 2)))) : lh ls' nL (lst l i (some v)) := by
  refine ⟨h.1, h.2.1, fun j u hj => ?_⟩
  rw [lg_lst] at hj
  by_cases e : j = i
  · rw [if_pos e] at hj
    cases hj
    subst e
    exact h.2.2 (j, v) List.mem_cons_self
  · rw [if_neg e] at hj
    refine h.2.2 (j, u) (List.mem_cons_of_mem _ (List.mem_filter.mpr ⟨(asc_mem l 0 j u).mpr ⟨j, by omega, hj⟩, ?_⟩))
    have h1 : (j == i) = false := by simpa using e
    by_cases h2 : j + 1 = i
    · subst h2
      have h3 : ¬ u.category = 2 := by
        intro hc
        simp only [okst, hj, isL_cat hc] at ho
        cases ho
      simp [e, h3]
    · simp [e, h2]
theorem lh_st2 {ls' : Array Slot} {nL i : Nat} {v : Value} {l : List (Option Value)} (ho : okst l i = true) (h : lv_has ls' nL ((i, v) :: (asc 0 l).filter (fun q => !(q.1 == i) && (!(q.1 == i + 1) && !(q.1 + 1 == i && q.2.category == 2))))) : lh ls' nL (lst (lst l (i + 1) none) i (some v)) := by
  refine ⟨h.1, h.2.1, fun j u hj => ?_⟩
  rw [lg_lst] at hj
  by_cases e : j = i
  · rw [if_pos e] at hj
    cases hj
    subst e
    exact h.2.2 (j, v) List.mem_cons_self
  · rw [if_neg e, lg_lst] at hj
    by_cases e2 : j = i + 1
    · rw [if_pos e2] at hj; cases hj
    · rw [if_neg e2] at hj
      refine h.2.2 (j, u) (List.mem_cons_of_mem _ (List.mem_filter.mpr ⟨(asc_mem l 0 j u).mpr ⟨j, by omega, hj⟩, ?_⟩))
      by_cases h2 : j + 1 = i
      · subst h2
        have h3 : ¬ u.category = 2 := by
          intro hc
          simp only [okst, hj, isL_cat hc] at ho
          cases ho
        simp [e, e2, h3]
      · simp [e, e2, h2]
def ent : List Value → List (Option Value)
  | [] => []
  | v :: t => if v.category = 2 then some v :: none :: ent t else some v :: ent t
theorem ent_args : ∀ (vs : List Value) (k i : Nat) (v : Value), lg (ent vs) i = some v → (k + i, v) ∈ lv_args k vs
  | [], k, i, v => by simp [ent, lg_nil]
  | u :: t, k, i, v => by
    intro h
    by_cases hc : u.category = 2
    · rw [ent, if_pos hc] at h
      rw [lv_args, if_pos hc]
      match i, h with
      | 0, h => simp only [lg, Option.some.injEq] at h; subst h; exact List.mem_cons_self
      | 1, h => simp [lg] at h
      | i + 2, h => exact List.mem_cons_of_mem _ (by have := ent_args t (k + 2) i v h; rwa [show k + 2 + i = k + (i + 2) by omega] at this)
    · rw [ent, if_neg hc] at h
      rw [lv_args, if_neg hc]
      match i, h with
      | 0, h => simp only [lg, Option.some.injEq] at h; subst h; exact List.mem_cons_self
      | i + 1, h => exact List.mem_cons_of_mem _ (by have := ent_args t (k + 1) i v h; rwa [show k + 1 + i = k + (i + 1) by omega] at this)
theorem lh_ent {ls : Array Slot} {nL : Nat} {vs : List Value} (h : lv_has ls nL (lv_args 0 vs)) : lh ls nL (ent vs) := ⟨h.1, h.2.1, fun i v e => h.2.2 (i, v) (by have := ent_args vs 0 i v e; rwa [Nat.zero_add] at this)⟩
/-! the judgement -/
abbrev Xc : Type := Program × Env × Room × State × MethodId × Array Value × List Frame × Method × Code × (Addr → Prop)
abbrev xp (X : Xc) : Program := X.1
abbrev xe (X : Xc) : Env := X.2.1
abbrev xR (X : Xc) : Room := X.2.2.1
abbrev xs (X : Xc) : State := X.2.2.2.1
abbrev xm (X : Xc) : MethodId := X.2.2.2.2.1
abbrev xa (X : Xc) : Array Value := X.2.2.2.2.2.1
abbrev xb (X : Xc) : List Frame := X.2.2.2.2.2.2.1
abbrev xt (X : Xc) : Method := X.2.2.2.2.2.2.2.1
abbrev xc (X : Xc) : Code := X.2.2.2.2.2.2.2.2.1
abbrev xA (X : Xc) : Addr → Prop := X.2.2.2.2.2.2.2.2.2
/-- what a method leaves: an answer and a world of which post holds; nothing else has changed -/
def Qg (G : Gc) (post : Option Value → Wd → Prop) (A : Addr → Prop) : Array Value → State → Outcome → State → Prop := fun _ st oc t =>
  (∃ (v : Option Value) (w : Wd), oc = .returned v ∧ post v w ∧ okW G w ∧ va_P (gD G) vwCl (cels G w) t.heap ∧ va_K (gD G) vwCl (gT G) t ∧ va_D A (cels G w)) ∧ va_F A st t
def Jw (G : Gc) (X : Xc) (post : Option Value → Wd → Prop) (pc : Nat) (lv : List (Option Value)) (st : List Value) (w : Wd) : Prop :=
  ∀ (H : Heap) (locs : List Loc) (ls : Array Slot), va_P (gD G) vwCl (cels G w) H → va_D (xA X) (cels G w) → va_S (xA X) (xs X).heap H locs → okW G w → lh ls (xc X).maxLocals lv →
    W (xp X) (gl G) (xe X) (xR X) (xs X) (xm X) (xa X) (xb X) (xt X) (xc X) H locs 0 0 (MQ (xb X) (Qg G post (xA X)) (xa X) (xs X) 0 0 (xA X)) (F0 (xm X) pc ls st)
/-- what holds all along a method's walk: own: its class, cc: its code, nL: its locals, d: its depth, ret: its result -/
def Fx (G : Gc) (X : Xc) (own : String) (cc : ByteArray) (nL d : Nat) (ret : Option FieldType) : Prop :=
  (xp X).tables.exec = Jvm.exec ∧ (xc X).code = cc ∧ (xc X).maxLocals = nL ∧ (xs X).vm.findClass own = some (xm X).cls ∧ (∀ w ∈ tb0, w.before (xa X) (xs X) = true) ∧ va_K (gD G) vwCl (gT G) (xs X) ∧ NWs (xs X) ∧
  (xt X).sig.returnType = ret ∧ (xt X).locks = false ∧ (xR X).frames = d ∧ (xR X).locals = 40 * d ∧ (xR X).cells = 0 ∧ (xR X).slots = 0 ∧ ∀ q, (xs X).heap.size ≤ q → xA X q
/-- a method's contract, for the answer and the world that it comes to -/
def Sp (G : Gc) (d : Nat) (y : MethodName) (cc : ByteArray) (nL : Nat) (ret : Option FieldType) (args : List Value) (w : Wd) (post : Option Value → Wd → Prop) : Prop := okW G w → ∀ sz : Nat,
  Met (gl G) y (Cond.code y cc nL ret :: tb0) { frames := d, cells := 0, slots := 0, locals := 40 * d } (va_Pc args (fun U => U.heap.size = sz ∧ va_P (gD G) vwCl (cels G w) U.heap ∧ va_K (gD G) vwCl (gT G) U ∧ NWs U ∧ va_D (fun _ => True) (cels G w)))
    (Qg G post (va_A (cels G w) sz)) 0 0 (va_A (cels G w) sz)
theorem Sp.of {G : Gc} {d : Nat} {y : MethodName} {cc : ByteArray} {nL : Nat} {ret : Option FieldType} {args : List Value} {w : Wd} {post : Option Value → Wd → Prop} (hy : plainName y.cls = true) (hn : (lg_sl args).length ≤ nL)
    (k : ∀ X : Xc, Fx G X y.cls cc nL d ret → Jw G X post 0 (ent args) [] w) : Sp G d y cc nL ret args w post := by
  intro hO sz
  refine Met.ofW (cc := cc) (maxL := nL) (ret := ret) hy rfl ?_
  intro p e s m a below meth c s₁ B hml hv
  obtain ⟨rfl, hsz, hP, hK, hN, hD0⟩ := hv
  have hts := atoms_spec (ws := Cond.code y cc nL ret :: tb0) B.pre
  have hown : s.vm.findClass y.cls = some m.cls := findClass_of_methodNamed B.named
  subst hsz
  have hD := hD0.self (sz := s.heap.size)
  have hS : va_S (va_A (cels G w) s.heap.size) s.heap s.heap [] := va_S.rf
  have hl := lv_entry args (n := nL) hn
  rw [lg_entry_eq]
  exact k (p, e, { frames := d, cells := 0, slots := 0, locals := 40 * d }, s, m, args.toArray, below, meth, c, va_A (cels G w) s.heap.size)
    ⟨B.exec, B.bytes, hml, hown, fun q hq => hts q (List.mem_cons_of_mem _ hq), hK, hN, B.returns, B.notSynchronized, rfl, rfl, rfl, rfl, fun q h => Or.inr h⟩ s.heap [] _ hP hD hS hO (lh_ent (by rw [show (xc (p, e, ({ frames := d, cells := 0, slots := 0, locals := 40 * d } : Room), s, m, args.toArray, below, meth, c, va_A (cels G w) s.heap.size)).maxLocals = nL from hml]; exact hl))
theorem Sp.mono {G : Gc} {d : Nat} {y : MethodName} {cc : ByteArray} {nL : Nat} {ret : Option FieldType} {args : List Value} {w : Wd} {post post' : Option Value → Wd → Prop} (h : Sp G d y cc nL ret args w post) (hp : ∀ v u, post v u → post' v u) : Sp G d y cc nL ret args w post' := by
  intro hO sz p e ha hc hk s m args below hf happ hP hK
  obtain ⟨t, o, h1, h2, h3, h4, h5⟩ := h hO sz p e ha hc hk s m args below hf happ hP hK
  obtain ⟨⟨v, u, a1, a2, a3⟩, a4⟩ := h4
  exact ⟨t, o, h1, h2, h3, ⟨⟨v, u, a1, hp v u a2, a3⟩, a4⟩, h5⟩
end
section
theorem iv_tdiv {a b : Int} (ha : inR a) (hb : inR b) : Int32.ofInt (a.tdiv b) = Int32.ofInt a / Int32.ofInt b := Int32.ofInt_tdiv (by rw [iv_min]; exact ha.1) (by rw [iv_max]; exact ha.2) (by rw [iv_min]; exact hb.1) (by rw [iv_max]; exact hb.2)
section JR
variable {G : Gc} {X : Xc} {own : String} {cc : ByteArray} {nL d : Nat} {ret : Option FieldType} {post : Option Value → Wd → Prop} {pc : Nat} {lv : List (Option Value)} {rest : List Value} {w : Wd}
theorem jr_iconst (F : Fx G X own cc nL d ret) {n : Int} (hd : decode cc pc = .ok (.iconst n, 1))
    (k : Jw G X post (pc + 1) lv (iv n :: rest) w) : Jw G X post pc lv rest w := by
  intro H locs ls hP hD hS hO hl
  exact lv_iconst F.1 F.2.1 hd rfl (k H locs ls hP hD hS hO hl)
theorem jr_bipush (F : Fx G X own cc nL d ret) {n : Int} (hd : decode cc pc = .ok (.bipush n, 2)) (hv : (Int8.ofInt n).toInt32 = Int32.ofInt n)
    (k : Jw G X post (pc + 2) lv (iv n :: rest) w) : Jw G X post pc lv rest w := by
  intro H locs ls hP hD hS hO hl
  exact lv_bipush F.1 F.2.1 hd hv (k H locs ls hP hD hS hO hl)
theorem jr_sipush (F : Fx G X own cc nL d ret) {n : Int} (hd : decode cc pc = .ok (.sipush n, 3)) (hv : (Int16.ofInt n).toInt32 = Int32.ofInt n)
    (k : Jw G X post (pc + 3) lv (iv n :: rest) w) : Jw G X post pc lv rest w := by
  intro H locs ls hP hD hS hO hl
  exact lv_sipush F.1 F.2.1 hd hv (k H locs ls hP hD hS hO hl)
theorem jr_lconst (F : Fx G X own cc nL d ret) {n : Fin 2} {z : Int} (hd : decode cc pc = .ok (.lconst n, 1)) (hv : Int64.ofNat (n : Nat) = Int64.ofInt z)
    (k : Jw G X post (pc + 1) lv (lq z :: rest) w) : Jw G X post pc lv rest w := by
  intro H locs ls hP hD hS hO hl
  exact lv_lconst F.1 F.2.1 hd hv (k H locs ls hP hD hS hO hl)
theorem jr_ldc (F : Fx G X own cc nL d ret) {i : Nat} {z : Int} (hd : decode cc pc = .ok (.ldc i, 2)) (hw : Cond.constant own i (Int32.ofInt z) ∈ tb0)
    (k : Jw G X post (pc + 2) lv (iv z :: rest) w) : Jw G X post pc lv rest w := by
  intro H locs ls hP hD hS hO hl
  exact lv_ldc F.1 F.2.1 F.2.2.2.1 (F.2.2.2.2.1 _ hw) hd (k H locs ls hP hD hS hO hl)
theorem jr_ldcw (F : Fx G X own cc nL d ret) {i : Nat} {z : Int} (hd : decode cc pc = .ok (.ldc_w i, 3)) (hw : Cond.constant own i (Int32.ofInt z) ∈ tb0)
    (k : Jw G X post (pc + 3) lv (iv z :: rest) w) : Jw G X post pc lv rest w := by
  intro H locs ls hP hD hS hO hl
  exact lv_ldcw F.1 F.2.1 F.2.2.2.1 (F.2.2.2.2.1 _ hw) hd (k H locs ls hP hD hS hO hl)
theorem jr_ldc2 (F : Fx G X own cc nL d ret) {i : Nat} {z : Int} (hd : decode cc pc = .ok (.ldc2_w i, 3)) (hw : Cond.constantLong own i (Int64.ofInt z) ∈ tb0)
    (k : Jw G X post (pc + 3) lv (lq z :: rest) w) : Jw G X post pc lv rest w := by
  intro H locs ls hP hD hS hO hl
  exact lv_ldc2 F.1 F.2.1 F.2.2.2.1 (F.2.2.2.2.1 _ hw) hd (k H locs ls hP hD hS hO hl)
theorem jr_iload_n (F : Fx G X own cc nL d ret) {i : Fin 4} {x : Int32} (hd : decode cc pc = .ok (.iload_n i, 1)) (hl : lg lv (i : Nat) = some (.int x))
    (k : Jw G X post (pc + 1) lv (.int x :: rest) w) : Jw G X post pc lv rest w := by
  intro H locs ls hP hD hS hO hl'
  exact lv_iload_n F.1 F.2.1 hd rfl (hl'.at hl) (k H locs ls hP hD hS hO hl')
theorem jr_iload (F : Fx G X own cc nL d ret) {i : Nat} {x : Int32} (hd : decode cc pc = .ok (.iload i, 2)) (hl : lg lv i = some (.int x))
    (k : Jw G X post (pc + 2) lv (.int x :: rest) w) : Jw G X post pc lv rest w := by
  intro H locs ls hP hD hS hO hl'
  exact lv_iload F.1 F.2.1 hd (hl'.at hl) (k H locs ls hP hD hS hO hl')
theorem jr_lload_n (F : Fx G X own cc nL d ret) {i : Fin 4} {x : Int64} (hd : decode cc pc = .ok (.lload_n i, 1)) (hl : lg lv (i : Nat) = some (.long x))
    (k : Jw G X post (pc + 1) lv (.long x :: rest) w) : Jw G X post pc lv rest w := by
  intro H locs ls hP hD hS hO hl'
  exact lv_lload_n F.1 F.2.1 hd rfl (hl'.at hl) (k H locs ls hP hD hS hO hl')
theorem jr_lload (F : Fx G X own cc nL d ret) {i : Nat} {x : Int64} (hd : decode cc pc = .ok (.lload i, 2)) (hl : lg lv i = some (.long x))
    (k : Jw G X post (pc + 2) lv (.long x :: rest) w) : Jw G X post pc lv rest w := by
  intro H locs ls hP hD hS hO hl'
  exact lv_lload F.1 F.2.1 hd (hl'.at hl) (k H locs ls hP hD hS hO hl')
theorem jr_aload_n (F : Fx G X own cc nL d ret) {i : Fin 4} {x : Nat} (hd : decode cc pc = .ok (.aload_n i, 1)) (hl : lg lv (i : Nat) = some (.ref x))
    (k : Jw G X post (pc + 1) lv (.ref x :: rest) w) : Jw G X post pc lv rest w := by
  intro H locs ls hP hD hS hO hl'
  exact lv_aload_n F.1 F.2.1 hd rfl (hl'.at hl) (k H locs ls hP hD hS hO hl')
theorem jr_aload (F : Fx G X own cc nL d ret) {i : Nat} {x : Nat} (hd : decode cc pc = .ok (.aload i, 2)) (hl : lg lv i = some (.ref x))
    (k : Jw G X post (pc + 2) lv (.ref x :: rest) w) : Jw G X post pc lv rest w := by
  intro H locs ls hP hD hS hO hl'
  exact lv_aload F.1 F.2.1 hd (hl'.at hl) (k H locs ls hP hD hS hO hl')
theorem jr_istore_n (F : Fx G X own cc nL d ret) {i : Fin 4} {x : Int32} (hd : decode cc pc = .ok (.istore_n i, 1)) (hn : (i : Nat) < nL) (ho : okst lv (i : Nat) = true)
    (k : Jw G X post (pc + 1) (lst lv (i : Nat) (some (.int x))) rest w) : Jw G X post pc lv (.int x :: rest) w := by
  intro H locs ls hP hD hS hO hl
  exact lv_istore_n F.1 F.2.1 hd rfl hl.has (by rw [F.2.2.1]; exact hn) rfl (fun ls' h' => k H locs ls' hP hD hS hO (lh_st1 ho h'))
theorem jr_istore (F : Fx G X own cc nL d ret) {i : Nat} {x : Int32} (hd : decode cc pc = .ok (.istore i, 2)) (hn : i < nL) (ho : okst lv i = true)
    (k : Jw G X post (pc + 2) (lst lv i (some (.int x))) rest w) : Jw G X post pc lv (.int x :: rest) w := by
  intro H locs ls hP hD hS hO hl
  exact lv_istore F.1 F.2.1 hd hl.has (by rw [F.2.2.1]; exact hn) rfl (fun ls' h' => k H locs ls' hP hD hS hO (lh_st1 ho h'))
theorem jr_astore_n (F : Fx G X own cc nL d ret) {i : Fin 4} {x : Nat} (hd : decode cc pc = .ok (.astore_n i, 1)) (hn : (i : Nat) < nL) (ho : okst lv (i : Nat) = true)
    (k : Jw G X post (pc + 1) (lst lv (i : Nat) (some (.ref x))) rest w) : Jw G X post pc lv (.ref x :: rest) w := by
  intro H locs ls hP hD hS hO hl
  exact lv_astore_n F.1 F.2.1 hd rfl hl.has (by rw [F.2.2.1]; exact hn) rfl (fun ls' h' => k H locs ls' hP hD hS hO (lh_st1 ho h'))
theorem jr_astore (F : Fx G X own cc nL d ret) {i : Nat} {x : Nat} (hd : decode cc pc = .ok (.astore i, 2)) (hn : i < nL) (ho : okst lv i = true)
    (k : Jw G X post (pc + 2) (lst lv i (some (.ref x))) rest w) : Jw G X post pc lv (.ref x :: rest) w := by
  intro H locs ls hP hD hS hO hl
  exact lv_astore F.1 F.2.1 hd hl.has (by rw [F.2.2.1]; exact hn) rfl (fun ls' h' => k H locs ls' hP hD hS hO (lh_st1 ho h'))
theorem jr_lstore_n (F : Fx G X own cc nL d ret) {i : Fin 4} {x : Int64} (hd : decode cc pc = .ok (.lstore_n i, 1)) (hn : (i : Nat) + 1 < nL) (ho : okst lv (i : Nat) = true)
    (k : Jw G X post (pc + 1) (lst (lst lv ((i : Nat) + 1) none) (i : Nat) (some (.long x))) rest w) : Jw G X post pc lv (.long x :: rest) w := by
  intro H locs ls hP hD hS hO hl
  exact lv_lstore_n F.1 F.2.1 hd rfl hl.has (by rw [F.2.2.1]; exact hn) rfl (fun ls' h' => k H locs ls' hP hD hS hO (lh_st2 ho h'))
theorem jr_lstore (F : Fx G X own cc nL d ret) {i : Nat} {x : Int64} (hd : decode cc pc = .ok (.lstore i, 2)) (hn : i + 1 < nL) (ho : okst lv i = true)
    (k : Jw G X post (pc + 2) (lst (lst lv (i + 1) none) i (some (.long x))) rest w) : Jw G X post pc lv (.long x :: rest) w := by
  intro H locs ls hP hD hS hO hl
  exact lv_lstore F.1 F.2.1 hd hl.has (by rw [F.2.2.1]; exact hn) rfl (fun ls' h' => k H locs ls' hP hD hS hO (lh_st2 ho h'))
theorem jr_iadd (F : Fx G X own cc nL d ret) {a b : Int} (hd : decode cc pc = .ok (.iadd, 1))
    (k : Jw G X post (pc + 1) lv (iv (a + b) :: rest) w) : Jw G X post pc lv (iv b :: iv a :: rest) w := by
  intro H locs ls hP hD hS hO hl
  have h := k H locs ls hP hD hS hO hl
  rw [iv, Int32.ofInt_add] at h
  exact lv_iadd F.1 F.2.1 hd h
theorem jr_isub (F : Fx G X own cc nL d ret) {a b : Int} (hd : decode cc pc = .ok (.isub, 1))
    (k : Jw G X post (pc + 1) lv (iv (a - b) :: rest) w) : Jw G X post pc lv (iv b :: iv a :: rest) w := by
  intro H locs ls hP hD hS hO hl
  have h := k H locs ls hP hD hS hO hl
  rw [iv, Int32.ofInt_sub] at h
  exact lv_isub F.1 F.2.1 hd h
theorem jr_imul (F : Fx G X own cc nL d ret) {a b : Int} (hd : decode cc pc = .ok (.imul, 1))
    (k : Jw G X post (pc + 1) lv (iv (a * b) :: rest) w) : Jw G X post pc lv (iv b :: iv a :: rest) w := by
  intro H locs ls hP hD hS hO hl
  have h := k H locs ls hP hD hS hO hl
  rw [iv, Int32.ofInt_mul] at h
  exact lv_imul F.1 F.2.1 hd h
theorem jr_ineg (F : Fx G X own cc nL d ret) {a : Int} (hd : decode cc pc = .ok (.ineg, 1))
    (k : Jw G X post (pc + 1) lv (iv (-a) :: rest) w) : Jw G X post pc lv (iv a :: rest) w := by
  intro H locs ls hP hD hS hO hl
  have h := k H locs ls hP hD hS hO hl
  rw [iv, Int32.ofInt_neg] at h
  exact lv_ineg F.1 F.2.1 hd h
theorem jr_ladd (F : Fx G X own cc nL d ret) {a b : Int} (hd : decode cc pc = .ok (.ladd, 1))
    (k : Jw G X post (pc + 1) lv (lq (a + b) :: rest) w) : Jw G X post pc lv (lq b :: lq a :: rest) w := by
  intro H locs ls hP hD hS hO hl
  have h := k H locs ls hP hD hS hO hl
  rw [lq, Int64.ofInt_add] at h
  exact lv_ladd F.1 F.2.1 hd h
theorem jr_lmul (F : Fx G X own cc nL d ret) {a b : Int} (hd : decode cc pc = .ok (.lmul, 1))
    (k : Jw G X post (pc + 1) lv (lq (a * b) :: rest) w) : Jw G X post pc lv (lq b :: lq a :: rest) w := by
  intro H locs ls hP hD hS hO hl
  have h := k H locs ls hP hD hS hO hl
  rw [lq, Int64.ofInt_mul] at h
  exact lv_lmul F.1 F.2.1 hd h
theorem jr_iand (F : Fx G X own cc nL d ret) {x y : Int32} (hd : decode cc pc = .ok (.iand, 1))
    (k : Jw G X post (pc + 1) lv (.int (x &&& y) :: rest) w) : Jw G X post pc lv (.int y :: .int x :: rest) w := by
  intro H locs ls hP hD hS hO hl
  exact lv_iand F.1 F.2.1 hd (k H locs ls hP hD hS hO hl)
theorem jr_ior (F : Fx G X own cc nL d ret) {x y : Int32} (hd : decode cc pc = .ok (.ior, 1))
    (k : Jw G X post (pc + 1) lv (.int (x ||| y) :: rest) w) : Jw G X post pc lv (.int y :: .int x :: rest) w := by
  intro H locs ls hP hD hS hO hl
  exact lv_ior F.1 F.2.1 hd (k H locs ls hP hD hS hO hl)
theorem jr_ixor (F : Fx G X own cc nL d ret) {x y : Int32} (hd : decode cc pc = .ok (.ixor, 1))
    (k : Jw G X post (pc + 1) lv (.int (x ^^^ y) :: rest) w) : Jw G X post pc lv (.int y :: .int x :: rest) w := by
  intro H locs ls hP hD hS hO hl
  exact lv_ixor F.1 F.2.1 hd (k H locs ls hP hD hS hO hl)
theorem jr_land (F : Fx G X own cc nL d ret) {x y : Int64} (hd : decode cc pc = .ok (.land, 1))
    (k : Jw G X post (pc + 1) lv (.long (x &&& y) :: rest) w) : Jw G X post pc lv (.long y :: .long x :: rest) w := by
  intro H locs ls hP hD hS hO hl
  exact lv_land F.1 F.2.1 hd (k H locs ls hP hD hS hO hl)
theorem jr_lor (F : Fx G X own cc nL d ret) {x y : Int64} (hd : decode cc pc = .ok (.lor, 1))
    (k : Jw G X post (pc + 1) lv (.long (x ||| y) :: rest) w) : Jw G X post pc lv (.long y :: .long x :: rest) w := by
  intro H locs ls hP hD hS hO hl
  exact lv_lor F.1 F.2.1 hd (k H locs ls hP hD hS hO hl)
theorem jr_lxor (F : Fx G X own cc nL d ret) {x y : Int64} (hd : decode cc pc = .ok (.lxor, 1))
    (k : Jw G X post (pc + 1) lv (.long (x ^^^ y) :: rest) w) : Jw G X post pc lv (.long y :: .long x :: rest) w := by
  intro H locs ls hP hD hS hO hl
  exact lv_lxor F.1 F.2.1 hd (k H locs ls hP hD hS hO hl)
theorem jr_top (F : Fx G X own cc nL d ret) {x : Int32} {z : Int} (hz : x = Int32.ofInt z)
    (k : Jw G X post pc lv (iv z :: rest) w) : Jw G X post pc lv (.int x :: rest) w := by
  intro H locs ls hP hD hS hO hl
  subst hz
  exact k H locs ls hP hD hS hO hl
theorem jr_topl (F : Fx G X own cc nL d ret) {x : Int64} {z : Int} (hz : x = Int64.ofInt z)
    (k : Jw G X post pc lv (lq z :: rest) w) : Jw G X post pc lv (.long x :: rest) w := by
  intro H locs ls hP hD hS hO hl
  subst hz
  exact k H locs ls hP hD hS hO hl
theorem jr_icmp_eq (F : Fx G X own cc nL d ret) {a b : Int} {off : Int} {tgt : Nat} (hd : decode cc pc = .ok (.if_icmp .eq off, 3)) (ht : (pc : Int) + off = (tgt : Int))
    (kt : a = b → Jw G X post tgt lv rest w) (kf : ¬ a = b → Jw G X post (pc + 3) lv rest w) (ha : inR a) (hb : inR b) : Jw G X post pc lv (iv b :: iv a :: rest) w := by
  intro H locs ls hP hD hS hO hl
  exact lv_icmp_eq F.1 F.2.1 hd ht (fun h => kt (by exact (iv_eq ha hb).mp h) H locs ls hP hD hS hO hl) (fun h => kf (by exact fun q => h ((iv_eq ha hb).mpr q)) H locs ls hP hD hS hO hl)
theorem jr_if_eq (F : Fx G X own cc nL d ret) {a : Int} {off : Int} {tgt : Nat} (hd : decode cc pc = .ok (.ifCond .eq off, 3)) (ht : (pc : Int) + off = (tgt : Int))
    (kt : a = 0 → Jw G X post tgt lv rest w) (kf : ¬ a = 0 → Jw G X post (pc + 3) lv rest w) (ha : inR a) : Jw G X post pc lv (iv a :: rest) w := by
  intro H locs ls hP hD hS hO hl
  exact lv_if_eq F.1 F.2.1 hd ht (fun h => kt (by rw [iv_zero] at h; exact (iv_eq ha (show inR 0 by omega)).mp h) H locs ls hP hD hS hO hl) (fun h => kf (by rw [iv_zero] at h; exact fun q => h ((iv_eq ha (show inR 0 by omega)).mpr q)) H locs ls hP hD hS hO hl)
theorem jr_icmp_ne (F : Fx G X own cc nL d ret) {a b : Int} {off : Int} {tgt : Nat} (hd : decode cc pc = .ok (.if_icmp .ne off, 3)) (ht : (pc : Int) + off = (tgt : Int))
    (kt : ¬ a = b → Jw G X post tgt lv rest w) (kf : a = b → Jw G X post (pc + 3) lv rest w) (ha : inR a) (hb : inR b) : Jw G X post pc lv (iv b :: iv a :: rest) w := by
  intro H locs ls hP hD hS hO hl
  exact lv_icmp_ne F.1 F.2.1 hd ht (fun h => kt (by exact fun q => h ((iv_eq ha hb).mpr q)) H locs ls hP hD hS hO hl) (fun h => kf (by exact (iv_eq ha hb).mp h) H locs ls hP hD hS hO hl)
theorem jr_if_ne (F : Fx G X own cc nL d ret) {a : Int} {off : Int} {tgt : Nat} (hd : decode cc pc = .ok (.ifCond .ne off, 3)) (ht : (pc : Int) + off = (tgt : Int))
    (kt : ¬ a = 0 → Jw G X post tgt lv rest w) (kf : a = 0 → Jw G X post (pc + 3) lv rest w) (ha : inR a) : Jw G X post pc lv (iv a :: rest) w := by
  intro H locs ls hP hD hS hO hl
  exact lv_if_ne F.1 F.2.1 hd ht (fun h => kt (by rw [iv_zero] at h; exact fun q => h ((iv_eq ha (show inR 0 by omega)).mpr q)) H locs ls hP hD hS hO hl) (fun h => kf (by rw [iv_zero] at h; exact (iv_eq ha (show inR 0 by omega)).mp h) H locs ls hP hD hS hO hl)
theorem jr_icmp_lt (F : Fx G X own cc nL d ret) {a b : Int} {off : Int} {tgt : Nat} (hd : decode cc pc = .ok (.if_icmp .lt off, 3)) (ht : (pc : Int) + off = (tgt : Int))
    (kt : a < b → Jw G X post tgt lv rest w) (kf : b ≤ a → Jw G X post (pc + 3) lv rest w) (ha : inR a) (hb : inR b) : Jw G X post pc lv (iv b :: iv a :: rest) w := by
  intro H locs ls hP hD hS hO hl
  exact lv_icmp_lt F.1 F.2.1 hd ht (fun h => kt (by exact (iv_lt ha hb).mp h) H locs ls hP hD hS hO hl) (fun h => kf (by exact Int.not_lt.mp (fun q => h ((iv_lt ha hb).mpr q))) H locs ls hP hD hS hO hl)
theorem jr_if_lt (F : Fx G X own cc nL d ret) {a : Int} {off : Int} {tgt : Nat} (hd : decode cc pc = .ok (.ifCond .lt off, 3)) (ht : (pc : Int) + off = (tgt : Int))
    (kt : a < 0 → Jw G X post tgt lv rest w) (kf : 0 ≤ a → Jw G X post (pc + 3) lv rest w) (ha : inR a) : Jw G X post pc lv (iv a :: rest) w := by
  intro H locs ls hP hD hS hO hl
  exact lv_if_lt F.1 F.2.1 hd ht (fun h => kt (by rw [iv_zero] at h; exact (iv_lt ha (show inR 0 by omega)).mp h) H locs ls hP hD hS hO hl) (fun h => kf (by rw [iv_zero] at h; exact Int.not_lt.mp (fun q => h ((iv_lt ha (show inR 0 by omega)).mpr q))) H locs ls hP hD hS hO hl)
theorem jr_icmp_ge (F : Fx G X own cc nL d ret) {a b : Int} {off : Int} {tgt : Nat} (hd : decode cc pc = .ok (.if_icmp .ge off, 3)) (ht : (pc : Int) + off = (tgt : Int))
    (kt : b ≤ a → Jw G X post tgt lv rest w) (kf : a < b → Jw G X post (pc + 3) lv rest w) (ha : inR a) (hb : inR b) : Jw G X post pc lv (iv b :: iv a :: rest) w := by
  intro H locs ls hP hD hS hO hl
  exact lv_icmp_ge F.1 F.2.1 hd ht (fun h => kt (by exact (iv_le hb ha).mp h) H locs ls hP hD hS hO hl) (fun h => kf (by exact Int.not_le.mp (fun q => h ((iv_le hb ha).mpr q))) H locs ls hP hD hS hO hl)
theorem jr_if_ge (F : Fx G X own cc nL d ret) {a : Int} {off : Int} {tgt : Nat} (hd : decode cc pc = .ok (.ifCond .ge off, 3)) (ht : (pc : Int) + off = (tgt : Int))
    (kt : 0 ≤ a → Jw G X post tgt lv rest w) (kf : a < 0 → Jw G X post (pc + 3) lv rest w) (ha : inR a) : Jw G X post pc lv (iv a :: rest) w := by
  intro H locs ls hP hD hS hO hl
  exact lv_if_ge F.1 F.2.1 hd ht (fun h => kt (by rw [iv_zero] at h; exact (iv_le (show inR 0 by omega) ha).mp h) H locs ls hP hD hS hO hl) (fun h => kf (by rw [iv_zero] at h; exact Int.not_le.mp (fun q => h ((iv_le (show inR 0 by omega) ha).mpr q))) H locs ls hP hD hS hO hl)
theorem jr_icmp_gt (F : Fx G X own cc nL d ret) {a b : Int} {off : Int} {tgt : Nat} (hd : decode cc pc = .ok (.if_icmp .gt off, 3)) (ht : (pc : Int) + off = (tgt : Int))
    (kt : b < a → Jw G X post tgt lv rest w) (kf : a ≤ b → Jw G X post (pc + 3) lv rest w) (ha : inR a) (hb : inR b) : Jw G X post pc lv (iv b :: iv a :: rest) w := by
  intro H locs ls hP hD hS hO hl
  exact lv_icmp_gt F.1 F.2.1 hd ht (fun h => kt (by exact (iv_lt hb ha).mp h) H locs ls hP hD hS hO hl) (fun h => kf (by exact Int.not_lt.mp (fun q => h ((iv_lt hb ha).mpr q))) H locs ls hP hD hS hO hl)
theorem jr_if_gt (F : Fx G X own cc nL d ret) {a : Int} {off : Int} {tgt : Nat} (hd : decode cc pc = .ok (.ifCond .gt off, 3)) (ht : (pc : Int) + off = (tgt : Int))
    (kt : 0 < a → Jw G X post tgt lv rest w) (kf : a ≤ 0 → Jw G X post (pc + 3) lv rest w) (ha : inR a) : Jw G X post pc lv (iv a :: rest) w := by
  intro H locs ls hP hD hS hO hl
  exact lv_if_gt F.1 F.2.1 hd ht (fun h => kt (by rw [iv_zero] at h; exact (iv_lt (show inR 0 by omega) ha).mp h) H locs ls hP hD hS hO hl) (fun h => kf (by rw [iv_zero] at h; exact Int.not_lt.mp (fun q => h ((iv_lt (show inR 0 by omega) ha).mpr q))) H locs ls hP hD hS hO hl)
theorem jr_icmp_le (F : Fx G X own cc nL d ret) {a b : Int} {off : Int} {tgt : Nat} (hd : decode cc pc = .ok (.if_icmp .le off, 3)) (ht : (pc : Int) + off = (tgt : Int))
    (kt : a ≤ b → Jw G X post tgt lv rest w) (kf : b < a → Jw G X post (pc + 3) lv rest w) (ha : inR a) (hb : inR b) : Jw G X post pc lv (iv b :: iv a :: rest) w := by
  intro H locs ls hP hD hS hO hl
  exact lv_icmp_le F.1 F.2.1 hd ht (fun h => kt (by exact (iv_le ha hb).mp h) H locs ls hP hD hS hO hl) (fun h => kf (by exact Int.not_le.mp (fun q => h ((iv_le ha hb).mpr q))) H locs ls hP hD hS hO hl)
theorem jr_if_le (F : Fx G X own cc nL d ret) {a : Int} {off : Int} {tgt : Nat} (hd : decode cc pc = .ok (.ifCond .le off, 3)) (ht : (pc : Int) + off = (tgt : Int))
    (kt : a ≤ 0 → Jw G X post tgt lv rest w) (kf : 0 < a → Jw G X post (pc + 3) lv rest w) (ha : inR a) : Jw G X post pc lv (iv a :: rest) w := by
  intro H locs ls hP hD hS hO hl
  exact lv_if_le F.1 F.2.1 hd ht (fun h => kt (by rw [iv_zero] at h; exact (iv_le ha (show inR 0 by omega)).mp h) H locs ls hP hD hS hO hl) (fun h => kf (by rw [iv_zero] at h; exact Int.not_le.mp (fun q => h ((iv_le ha (show inR 0 by omega)).mpr q))) H locs ls hP hD hS hO hl)
/-- a truth as a number -/
noncomputable def bi (P : Prop) : Int := @ite _ P (Classical.propDecidable P) 1 0
theorem bi_t {P : Prop} (h : P) : bi P = 1 := by unfold bi; rw [if_pos h]
theorem bi_f {P : Prop} (h : ¬ P) : bi P = 0 := by unfold bi; rw [if_neg h]
theorem bi_c {P Q : Prop} (h : P ↔ Q) : bi P = bi Q := by rw [propext h]
theorem bi_01 (P : Prop) : 0 ≤ bi P ∧ bi P ≤ 1 := (Classical.em P).elim (fun h => by rw [bi_t h]; omega) (fun h => by rw [bi_f h]; omega)
theorem bi_eq1 {P : Prop} : bi P = 1 ↔ P := ⟨fun h => Classical.byContradiction fun q => by rw [bi_f q] at h; omega, bi_t⟩
theorem bi_eq0 {P : Prop} : bi P = 0 ↔ ¬ P := ⟨fun h q => by rw [bi_t q] at h; omega, bi_f⟩
theorem jr_ifeq_b (F : Fx G X own cc nL d ret) {B : Prop} {off : Int} {tgt : Nat} (hd : decode cc pc = .ok (.ifCond .eq off, 3)) (ht : (pc : Int) + off = (tgt : Int))
    (kt : ¬ B → Jw G X post tgt lv rest w) (kf : B → Jw G X post (pc + 3) lv rest w) : Jw G X post pc lv (iv (bi B) :: rest) w :=
  jr_if_eq F hd ht (fun h => kt (bi_eq0.mp h)) (fun h => kf (Classical.byContradiction fun q => h (bi_f q))) (by have := bi_01 B; omega)
theorem jr_ifne_b (F : Fx G X own cc nL d ret) {B : Prop} {off : Int} {tgt : Nat} (hd : decode cc pc = .ok (.ifCond .ne off, 3)) (ht : (pc : Int) + off = (tgt : Int))
    (kt : B → Jw G X post tgt lv rest w) (kf : ¬ B → Jw G X post (pc + 3) lv rest w) : Jw G X post pc lv (iv (bi B) :: rest) w :=
  jr_if_ne F hd ht (fun h => kt (Classical.byContradiction fun q => h (bi_f q))) (fun h => kf (bi_eq0.mp h)) (by have := bi_01 B; omega)
theorem jr_goto (F : Fx G X own cc nL d ret) {off : Int} {tgt : Nat} (hd : decode cc pc = .ok (.goto off, 3)) (ht : (pc : Int) + off = (tgt : Int))
    (k : Jw G X post tgt lv rest w) : Jw G X post pc lv rest w := by
  intro H locs ls hP hD hS hO hl
  exact lv_goto F.1 F.2.1 hd ht (k H locs ls hP hD hS hO hl)
theorem jr_tsOut (F : Fx G X own cc nL d ret) {a dflt lo hi : Int} {offs : Array Int} {len tgt : Nat} (hd : decode cc pc = .ok (.tableswitch dflt lo hi offs, len)) (h : a < lo ∨ hi < a) (ht : (pc : Int) + dflt = (tgt : Int)) (ha : inR a)
    (k : Jw G X post tgt lv rest w) : Jw G X post pc lv (iv a :: rest) w := by
  intro H locs ls hP hD hS hO hl
  exact lv_tableOut F.1 F.2.1 hd (by rw [iv_toInt ha]; exact h) ht (k H locs ls hP hD hS hO hl)
theorem jr_tsIn (F : Fx G X own cc nL d ret) {a dflt lo hi off : Int} {offs : Array Int} {len tgt : Nat} (v : Int) (hd : decode cc pc = .ok (.tableswitch dflt lo hi offs, len)) (h : a = v) (h1 : lo ≤ v) (h2 : v ≤ hi) (ho : offs[(v - lo).toNat]? = some off) (ht : (pc : Int) + off = (tgt : Int)) (ha : inR v)
    (k : Jw G X post tgt lv rest w) : Jw G X post pc lv (iv a :: rest) w := by
  intro H locs ls hP hD hS hO hl
  subst h
  exact lv_tableIn F.1 F.2.1 hd (by rw [iv_toInt ha]; omega) (by rw [iv_toInt ha]; omega) (by rw [iv_toInt ha]; exact ho) ht (k H locs ls hP hD hS hO hl)
theorem jr_look (F : Fx G X own cc nL d ret) {a dflt off : Int} {ps : Array (Int × Int)} {len tgt : Nat} (hd : decode cc pc = .ok (.lookupswitch dflt ps, len)) (hp : (ps.toList.zip (ps.toList.drop 1)).all (fun (a, next) => a.1 < next.1) = true) (ho : Op.lookupswitch.offset ps.toList dflt a = off) (ht : (pc : Int) + off = (tgt : Int)) (ha : inR a)
    (k : Jw G X post tgt lv rest w) : Jw G X post pc lv (iv a :: rest) w := by
  intro H locs ls hP hD hS hO hl
  exact lv_lookup F.1 F.2.1 hd hp (by rw [iv_toInt ha]; exact ho) ht (k H locs ls hP hD hS hO hl)
theorem asc_at {ls : Array Slot} {nL : Nat} {l : List (Option Value)} {i : Nat} {v : Value} (h : lg l i = some v) : ∃ k : Nat, (asc 0 l)[k]? = some (i, v) := List.getElem?_of_mem ((asc_mem l 0 i v).mpr ⟨i, by omega, h⟩)
theorem jr_iinc (F : Fx G X own cc nL d ret) {i : Nat} {n a : Int} (hd : decode cc pc = .ok (.iinc i n, 3)) (hi : lg lv i = some (iv a)) (hn : i < nL) (ho : okst lv i = true)
    (k : Jw G X post (pc + 3) (lst lv i (some (iv (a + n)))) rest w) : Jw G X post pc lv rest w := by
  intro H locs ls hP hD hS hO hl
  obtain ⟨q, hq⟩ := asc_at (ls := ls) (nL := nL) hi
  exact lv_iinc (v := Int32.ofInt (a + n)) F.1 F.2.1 hd hl.has hq (by rw [Int32.ofInt_add]) (by rw [F.2.2.1]; exact hn) rfl (fun ls' h' => k H locs ls' hP hD hS hO (lh_st1 ho h'))
theorem jr_i2l (F : Fx G X own cc nL d ret) {a : Int} (hd : decode cc pc = .ok (.i2l, 1)) (ha : inR a)
    (k : Jw G X post (pc + 1) lv (lq a :: rest) w) : Jw G X post pc lv (iv a :: rest) w := by
  intro H locs ls hP hD hS hO hl
  exact lv_i2l F.1 F.2.1 hd (Int32.toInt64_ofInt (by rw [iv_min]; exact ha.1) (by rw [iv_max]; exact ha.2)) (k H locs ls hP hD hS hO hl)
theorem jr_l2i (F : Fx G X own cc nL d ret) {a : Int} (hd : decode cc pc = .ok (.l2i, 1))
    (k : Jw G X post (pc + 1) lv (iv a :: rest) w) : Jw G X post pc lv (lq a :: rest) w := by
  intro H locs ls hP hD hS hO hl
  exact lv_l2i F.1 F.2.1 hd Int64.toInt32_ofInt (k H locs ls hP hD hS hO hl)
theorem jr_i2b (F : Fx G X own cc nL d ret) {a : Int} (hd : decode cc pc = .ok (.i2b, 1)) (ha : -128 ≤ a ∧ a ≤ 127)
    (k : Jw G X post (pc + 1) lv (iv a :: rest) w) : Jw G X post pc lv (iv a :: rest) w := by
  intro H locs ls hP hD hS hO hl
  exact lv_i2b F.1 F.2.1 hd (by rw [Int32.toInt8_ofInt]; exact Int32.toInt_inj.mp (by rw [Int8.toInt_toInt32, Int8.toInt_ofInt_of_le (by omega) (by omega), iv_toInt (by omega)])) (k H locs ls hP hD hS hO hl)
theorem jr_ishl (F : Fx G X own cc nL d ret) {x y : Int32} (hd : decode cc pc = .ok (.ishl, 1))
    (k : Jw G X post (pc + 1) lv (.int (x <<< (y &&& 31)) :: rest) w) : Jw G X post pc lv (.int y :: .int x :: rest) w := by
  intro H locs ls hP hD hS hO hl
  exact lv_ishl F.1 F.2.1 hd (k H locs ls hP hD hS hO hl)
theorem jr_ishr (F : Fx G X own cc nL d ret) {x y : Int32} (hd : decode cc pc = .ok (.ishr, 1))
    (k : Jw G X post (pc + 1) lv (.int (x >>> (y &&& 31)) :: rest) w) : Jw G X post pc lv (.int y :: .int x :: rest) w := by
  intro H locs ls hP hD hS hO hl
  exact lv_ishr F.1 F.2.1 hd (k H locs ls hP hD hS hO hl)
theorem jr_iushr (F : Fx G X own cc nL d ret) {x y : Int32} (hd : decode cc pc = .ok (.iushr, 1))
    (k : Jw G X post (pc + 1) lv (.int ((x.toUInt32 >>> (y.toUInt32 &&& Int32.toUInt32 31)).toInt32) :: rest) w) : Jw G X post pc lv (.int y :: .int x :: rest) w := by
  intro H locs ls hP hD hS hO hl
  exact lv_iushr F.1 F.2.1 hd rfl (k H locs ls hP hD hS hO hl)
theorem jr_lshl (F : Fx G X own cc nL d ret) {x : Int64} {y : Int32} (hd : decode cc pc = .ok (.lshl, 1))
    (k : Jw G X post (pc + 1) lv (.long (x <<< (y.toInt64 &&& 63)) :: rest) w) : Jw G X post pc lv (.int y :: .long x :: rest) w := by
  intro H locs ls hP hD hS hO hl
  exact lv_lshl F.1 F.2.1 hd rfl (k H locs ls hP hD hS hO hl)
theorem jr_lshr (F : Fx G X own cc nL d ret) {x : Int64} {y : Int32} (hd : decode cc pc = .ok (.lshr, 1))
    (k : Jw G X post (pc + 1) lv (.long (x >>> (y.toInt64 &&& 63)) :: rest) w) : Jw G X post pc lv (.int y :: .long x :: rest) w := by
  intro H locs ls hP hD hS hO hl
  exact lv_lshr F.1 F.2.1 hd rfl (k H locs ls hP hD hS hO hl)
theorem jr_lushr (F : Fx G X own cc nL d ret) {x : Int64} {y : Int32} (hd : decode cc pc = .ok (.lushr, 1))
    (k : Jw G X post (pc + 1) lv (.long ((x.toUInt64 >>> (y.toInt64.toUInt64 &&& Int64.toUInt64 63)).toInt64) :: rest) w) : Jw G X post pc lv (.int y :: .long x :: rest) w := by
  intro H locs ls hP hD hS hO hl
  exact lv_lushr F.1 F.2.1 hd rfl (k H locs ls hP hD hS hO hl)
theorem jr_irem (F : Fx G X own cc nL d ret) {a b : Int} (hd : decode cc pc = .ok (.irem, 1)) (ha : inR a) (h0 : 0 ≤ a) (hb : 0 < b) (hb2 : inR b)
    (k : Jw G X post (pc + 1) lv (iv (a % b) :: rest) w) : Jw G X post pc lv (iv b :: iv a :: rest) w := by
  intro H locs ls hP hD hS hO hl
  have h := k H locs ls hP hD hS hO hl
  have e : Int32.ofInt a - Int32.ofInt a / Int32.ofInt b * Int32.ofInt b = Int32.ofInt (a % b) := by rw [← iv_tdiv ha hb2, Int.tdiv_eq_ediv_of_nonneg h0, ← Int32.ofInt_mul, ← Int32.ofInt_sub, Int.emod_def, Int.mul_comm b]
  rw [iv, ← e] at h
  exact lv_irem F.1 F.2.1 hd (by rw [iv_zero, iv_eq hb2 (by omega)]; omega) h
theorem jr_idiv (F : Fx G X own cc nL d ret) {a b : Int} (hd : decode cc pc = .ok (.idiv, 1)) (ha : inR a) (h0 : 0 ≤ a) (hb : 0 < b) (hb2 : inR b)
    (k : Jw G X post (pc + 1) lv (iv (a / b) :: rest) w) : Jw G X post pc lv (iv b :: iv a :: rest) w := by
  intro H locs ls hP hD hS hO hl
  have h := k H locs ls hP hD hS hO hl
  have e : Int32.ofInt a / Int32.ofInt b = Int32.ofInt (a / b) := by rw [← iv_tdiv ha hb2, Int.tdiv_eq_ediv_of_nonneg h0]
  rw [iv, ← e] at h
  exact lv_idiv F.1 F.2.1 hd (by rw [iv_zero, iv_eq hb2 (by omega)]; omega) h
theorem jr_dup (F : Fx G X own cc nL d ret) {v : Value} (hd : decode cc pc = .ok (.dup, 1)) (hc : v.category = 1)
    (k : Jw G X post (pc + 1) lv (v :: v :: rest) w) : Jw G X post pc lv (v :: rest) w := by
  intro H locs ls hP hD hS hO hl
  exact lv_dup F.1 F.2.1 hd hc (k H locs ls hP hD hS hO hl)
theorem jr_pop (F : Fx G X own cc nL d ret) {v : Value} (hd : decode cc pc = .ok (.pop, 1)) (hc : v.category = 1)
    (k : Jw G X post (pc + 1) lv rest w) : Jw G X post pc lv (v :: rest) w := by
  intro H locs ls hP hD hS hO hl
  exact lv_pop F.1 F.2.1 hd hc (k H locs ls hP hD hS hO hl)
theorem jr_dup_x1 (F : Fx G X own cc nL d ret) {u v : Value} (hd : decode cc pc = .ok (.dup_x1, 1)) (hu : u.category = 1) (hv : v.category = 1)
    (k : Jw G X post (pc + 1) lv (u :: v :: u :: rest) w) : Jw G X post pc lv (u :: v :: rest) w := by
  intro H locs ls hP hD hS hO hl
  exact lv_dup_x1 F.1 F.2.1 hd hu hv (k H locs ls hP hD hS hO hl)
theorem jr_dup2 (F : Fx G X own cc nL d ret) {u v : Value} (hd : decode cc pc = .ok (.dup2, 1)) (hu : u.category = 1) (hv : v.category = 1)
    (k : Jw G X post (pc + 1) lv (u :: v :: u :: v :: rest) w) : Jw G X post pc lv (u :: v :: rest) w := by
  intro H locs ls hP hD hS hO hl
  exact lv_dup2_11 F.1 F.2.1 hd hu hv (k H locs ls hP hD hS hO hl)
theorem jr_ifnull (F : Fx G X own cc nL d ret) {x : Nat} {off : Int} (hd : decode cc pc = .ok (.ifnull off, 3))
    (k : Jw G X post (pc + 3) lv rest w) : Jw G X post pc lv (.ref x :: rest) w := by
  intro H locs ls hP hD hS hO hl
  exact lv_ifnull F.1 F.2.1 hd (k H locs ls hP hD hS hO hl)
end JR
end
section
/-! what the tables say of a field that an instruction names: own: the class of the method, i: the entry of its pool, ci: the class of the object, j: the field's place -/
def Fg (own : String) (i ci j : Nat) : Prop := ∃ (C : String) (T : u_T) (N : Nat), vwCl[ci]? = some (C, T, N) ∧ j < N ∧ (∀ w ∈ u_ws C T N, w ∈ tb0) ∧ Cond.fieldLink own i (T j).1 (T j).2.1 (T j).2.2.1 ∈ tb0
def Fp (own : String) (i ci j : Nat) (ty : FieldType) : Prop := ∃ (C : String) (T : u_T) (N : Nat) (ty0 : Nat → FieldType), vwCl[ci]? = some (C, T, N) ∧ j < N ∧ (∀ w ∈ u_ws C T N, w ∈ tb0) ∧ Cond.fieldLink own i (T j).1 (T j).2.1 (T j).2.2.1 ∈ tb0 ∧
  (∀ k, k < N → parseFieldDescriptor (T k).2.2.1 = some (ty0 k)) ∧ (∀ a, a < N → ∀ b, b < N → a ≠ b → (T a).2.1 ≠ (T b).2.1) ∧ (T j).2.2.2 = false ∧ parseFieldDescriptor (T j).2.2.1 = some ty
theorem nar_bool {a : Int} (h : 0 ≤ a ∧ a ≤ 1) : narrow .boolean (.int (Int32.ofInt a)) = .int (Int32.ofInt a) ∧ fits .boolean (.int (Int32.ofInt a)) = true := by
  rcases (show a = 0 ∨ a = 1 by omega) with rfl | rfl <;> exact ⟨by decide, by decide⟩
theorem iv_nat (n : Nat) : Int32.ofNat n = Int32.ofInt (n : Int) := by rw [Int32.ofInt_eq_ofNat]
theorem upd_arr {w : Wd} {k : Nat} {i v : Int} (h0 : 0 ≤ i) : upd (fun j => Int32.ofInt (w k (j : Int))) i.toNat (Int32.ofInt v) = fun j : Nat => Int32.ofInt (up w k i v k (j : Int)) := by
  funext j
  unfold upd up
  by_cases h : j = i.toNat
  · have : (j : Int) = i := by omega
    rw [if_pos h, if_pos ⟨rfl, this⟩]
  · have : ¬ (j : Int) = i := by omega
    rw [if_neg h, if_neg (fun q => this q.2)]
theorem fvs_set {G : Gc} {w : Wd} {k j c : Nat} {v : Int} {x : Value} : ∀ {l : List Nat} {b : Nat}, l[j]? = some c → fv G (up w k ((b + j : Nat) : Int) v) k (b + j) c = x → (fvs G w k b l).set j x = fvs G (up w k ((b + j : Nat) : Int) v) k b l
  | [], b, h, _ => by simp at h
  | u :: t, b, h, hx => by
    have tl : ∀ (l : List Nat) (m : Nat), b + j < m → fvs G (up w k ((b + j : Nat) : Int) v) k m l = fvs G w k m l := by
      intro l
      induction l with
      | nil => intro m _; rfl
      | cons q l ih =>
        intro m hm
        simp only [fvs, ih (m + 1) (by omega)]
        congr 1
        unfold fv
        simp only [up_ne (w := w) (k := k) (k' := k) (i := ((b + j : Nat) : Int)) (v := v) (j := (m : Int)) (by omega)]
    cases j with
    | zero =>
      simp only [List.getElem?_cons_zero, Option.some.injEq] at h
      subst h
      simp only [fvs, List.set_cons_zero]
      rw [tl t (b + 1) (by omega)]
      rw [show b + 0 = b from rfl] at hx
      rw [show b + 0 = b from rfl, hx]
    | succ j =>
      simp only [List.getElem?_cons_succ] at h
      simp only [fvs, List.set_cons_succ]
      have h1 : fv G (up w k ((b + (j + 1) : Nat) : Int) v) k b u = fv G w k b u := by
        unfold fv
        simp only [up_ne (w := w) (k := k) (k' := k) (i := ((b + (j + 1) : Nat) : Int)) (v := v) (j := (b : Int)) (by omega)]
      rw [h1]
      have e : b + (j + 1) = (b + 1) + j := by omega
      rw [e] at hx ⊢
      rw [fvs_set (b := b + 1) h hx]
section JH
variable {G : Gc} {X : Xc} {own : String} {cc : ByteArray} {nL d : Nat} {ret : Option FieldType} {post : Option Value → Wd → Prop} {pc : Nat} {lv : List (Option Value)} {rest : List Value} {w : Wd}
theorem jr_getV (F : Fx G X own cc nL d ret) {i k ci j c : Nat} {fs : List Nat} (hd : decode cc pc = .ok (.getfield i, 3)) (L : Fg own i ci j) (hk : k < gn G) (hs : gS G k = .inr (ci, fs)) (hc : fs[j]? = some c)
    (kk : Jw G X post (pc + 3) lv (fv G w k j c :: rest) w) : Jw G X post pc lv (.ref (ga G k) :: rest) w := by
  intro H locs ls hP hD hS hO hl
  obtain ⟨C, T, N, l1, l2, l3, l4⟩ := L
  exact va_get F.1 F.2.1 F.2.2.2.2.1 l3 F.2.2.2.1 F.2.2.2.2.2.1 hP k (by rw [cels_get hk, cel_O hs]) l1 j l2 (F.2.2.2.2.1 _ l4) (fun _ h => h) (by rw [fvs_get, hc]; simp) hd (kk H locs ls hP hD hS hO hl)
theorem jr_getI (F : Fx G X own cc nL d ret) {i k ci j : Nat} {fs : List Nat} (hd : decode cc pc = .ok (.getfield i, 3)) (L : Fg own i ci j) (hk : k < gn G) (hs : gS G k = .inr (ci, fs)) (hc : fs[j]? = some 0)
    (kk : inR (w k (j : Nat)) → Jw G X post (pc + 3) lv (iv (w k (j : Nat)) :: rest) w) : Jw G X post pc lv (.ref (ga G k) :: rest) w := by
  intro H locs ls hP hD hS hO hl
  exact jr_getV F hd L hk hs hc (kk (hO.2 k ci fs hs j 0 hc)) H locs ls hP hD hS hO hl
theorem jr_getZ (F : Fx G X own cc nL d ret) {i k ci j : Nat} {fs : List Nat} (hd : decode cc pc = .ok (.getfield i, 3)) (L : Fg own i ci j) (hk : k < gn G) (hs : gS G k = .inr (ci, fs)) (hc : fs[j]? = some 2)
    (kk : (0 ≤ w k (j : Nat) ∧ w k (j : Nat) ≤ 1) → Jw G X post (pc + 3) lv (iv (w k (j : Nat)) :: rest) w) : Jw G X post pc lv (.ref (ga G k) :: rest) w := by
  intro H locs ls hP hD hS hO hl
  exact jr_getV F hd L hk hs hc (kk (hO.2 k ci fs hs j 2 hc)) H locs ls hP hD hS hO hl
theorem jr_getL (F : Fx G X own cc nL d ret) {i k ci j : Nat} {fs : List Nat} (hd : decode cc pc = .ok (.getfield i, 3)) (L : Fg own i ci j) (hk : k < gn G) (hs : gS G k = .inr (ci, fs)) (hc : fs[j]? = some 1)
    (kk : inL (w k (j : Nat)) → Jw G X post (pc + 3) lv (lq (w k (j : Nat)) :: rest) w) : Jw G X post pc lv (.ref (ga G k) :: rest) w := by
  intro H locs ls hP hD hS hO hl
  exact jr_getV F hd L hk hs hc (kk (hO.2 k ci fs hs j 1 hc)) H locs ls hP hD hS hO hl
theorem jr_getR (F : Fx G X own cc nL d ret) {i k ci j t : Nat} {fs : List Nat} (hd : decode cc pc = .ok (.getfield i, 3)) (L : Fg own i ci j) (hk : k < gn G) (hs : gS G k = .inr (ci, fs)) (hc : fs[j]? = some (t + 3))
    (kk : Jw G X post (pc + 3) lv (.ref (ga G t) :: rest) w) : Jw G X post pc lv (.ref (ga G k) :: rest) w := jr_getV F hd L hk hs hc kk
theorem jr_putV (F : Fx G X own cc nL d ret) {i k ci j c : Nat} {fs : List Nat} {v : Int} {x : Value} {ty : FieldType} (hd : decode cc pc = .ok (.putfield i, 3)) (L : Fp own i ci j ty) (hk : k < gn G) (hs : gS G k = .inr (ci, fs)) (hc : fs[j]? = some c)
    (hx : fv G (up w k (j : Nat) v) k j c = x) (hn : narrow ty x = x) (hf : fits ty x = true) (hv : rF c v) (kk : Jw G X post (pc + 3) lv rest (up w k (j : Nat) v)) : Jw G X post pc lv (x :: .ref (ga G k) :: rest) w := by
  intro H locs ls hP hD hS hO hl
  obtain ⟨C, T, N, ty0, l1, l2, l3, l4, l5, l6, l7, l8⟩ := L
  have e : (cels G w).set k (ga G k, .inr (ci, (fvs G w k 0 fs).set j x)) = cels G (up w k (j : Nat) v) := cels_upd (fun k' h => up_cell h) (by
    rw [cel_O hs]
    have := fvs_set (G := G) (w := w) (k := k) (v := v) (b := 0) hc (x := x) (by rw [Nat.zero_add]; exact hx)
    rw [Nat.zero_add] at this
    rw [this])
  refine va_put F.1 F.2.1 F.2.2.2.2.1 l3 ty0 l5 l6 F.2.2.2.1 F.2.2.2.2.2.1 hP hD hS k (by rw [cels_get hk, cel_O hs]) l1 j l2 (F.2.2.2.2.1 _ l4) (fun _ h => h) l7 l8 hn hf (by rw [fvs_len]; exact (List.getElem?_eq_some_iff.mp hc).1) hd (fun H1 locs1 hP1 hD1 hS1 => ?_)
  rw [e] at hP1 hD1
  exact kk H1 locs1 ls hP1 hD1 hS1 (hO.upF hs hc hv) hl
theorem jr_putI (F : Fx G X own cc nL d ret) {i k ci j : Nat} {fs : List Nat} {v : Int} (hd : decode cc pc = .ok (.putfield i, 3)) (L : Fp own i ci j .int) (hk : k < gn G) (hs : gS G k = .inr (ci, fs)) (hc : fs[j]? = some 0)
    (hv : inR v) (kk : Jw G X post (pc + 3) lv rest (up w k (j : Nat) v)) : Jw G X post pc lv (iv v :: .ref (ga G k) :: rest) w :=
  jr_putV F hd L hk hs hc (by show iv (up w k (j : Nat) v k (j : Nat)) = iv v; rw [up_self]) rfl rfl hv kk
theorem jr_putZ (F : Fx G X own cc nL d ret) {i k ci j : Nat} {fs : List Nat} {v : Int} (hd : decode cc pc = .ok (.putfield i, 3)) (L : Fp own i ci j .boolean) (hk : k < gn G) (hs : gS G k = .inr (ci, fs)) (hc : fs[j]? = some 2)
    (hv : 0 ≤ v ∧ v ≤ 1) (kk : Jw G X post (pc + 3) lv rest (up w k (j : Nat) v)) : Jw G X post pc lv (iv v :: .ref (ga G k) :: rest) w :=
  jr_putV F hd L hk hs hc (by show iv (up w k (j : Nat) v k (j : Nat)) = iv v; rw [up_self]) (nar_bool hv).1 (nar_bool hv).2 hv kk
theorem jr_putL (F : Fx G X own cc nL d ret) {i k ci j : Nat} {fs : List Nat} {v : Int} (hd : decode cc pc = .ok (.putfield i, 3)) (L : Fp own i ci j .long) (hk : k < gn G) (hs : gS G k = .inr (ci, fs)) (hc : fs[j]? = some 1)
    (hv : inL v) (kk : Jw G X post (pc + 3) lv rest (up w k (j : Nat) v)) : Jw G X post pc lv (lq v :: .ref (ga G k) :: rest) w :=
  jr_putV F hd L hk hs hc (by show lq (up w k (j : Nat) v k (j : Nat)) = lq v; rw [up_self]) rfl rfl hv kk
theorem jr_iald (F : Fx G X own cc nL d ret) {k n : Nat} {a : Int} (hd : decode cc pc = .ok (.iaload, 1)) (hk : k < gn G) (hs : gS G k = .inl (0, n)) (hn : n < 2147483648)
    (kk : inR (w k a) → Jw G X post (pc + 1) lv (iv (w k a) :: rest) w) (h0 : 0 ≤ a) (h1 : a < n) : Jw G X post pc lv (iv a :: .ref (ga G k) :: rest) w := by
  intro H locs ls hP hD hS hO hl
  have ha : inR a := by omega
  have h := kk (hO.1 k 0 n hs a h0 h1) H locs ls hP hD hS hO hl
  refine va_iald F.1 F.2.1 F.2.2.2.2.2.1 hP k 0 (by rw [cels_get hk, cel_A hs]) rfl (iv_in ha h0 h1) hd ?_
  rw [iv_clamp ha, Int.toNat_of_nonneg h0]
  exact h
theorem jr_bald (F : Fx G X own cc nL d ret) {k n : Nat} {a : Int} (hd : decode cc pc = .ok (.baload, 1)) (hk : k < gn G) (hs : gS G k = .inl (1, n)) (hn : n < 2147483648)
    (kk : (-128 ≤ w k a ∧ w k a ≤ 127) → Jw G X post (pc + 1) lv (iv (w k a) :: rest) w) (h0 : 0 ≤ a) (h1 : a < n) : Jw G X post pc lv (iv a :: .ref (ga G k) :: rest) w := by
  intro H locs ls hP hD hS hO hl
  have ha : inR a := by omega
  have h := kk (hO.1 k 1 n hs a h0 h1) H locs ls hP hD hS hO hl
  refine va_bald F.1 F.2.1 F.2.2.2.2.2.1 hP k 1 (by rw [cels_get hk, cel_A hs]) rfl (iv_in ha h0 h1) hd ?_
  rw [iv_clamp ha, Int.toNat_of_nonneg h0]
  exact h
theorem jr_zald (F : Fx G X own cc nL d ret) {k n : Nat} {a : Int} (hd : decode cc pc = .ok (.baload, 1)) (hk : k < gn G) (hs : gS G k = .inl (2, n)) (hn : n < 2147483648)
    (kk : (0 ≤ w k a ∧ w k a ≤ 1) → Jw G X post (pc + 1) lv (iv (w k a) :: rest) w) (h0 : 0 ≤ a) (h1 : a < n) : Jw G X post pc lv (iv a :: .ref (ga G k) :: rest) w := by
  intro H locs ls hP hD hS hO hl
  have ha : inR a := by omega
  have h := kk (hO.1 k 2 n hs a h0 h1) H locs ls hP hD hS hO hl
  refine va_zald F.1 F.2.1 F.2.2.2.2.2.1 hP k 2 (by rw [cels_get hk, cel_A hs]) rfl (iv_in ha h0 h1) hd ?_
  rw [iv_clamp ha, Int.toNat_of_nonneg h0]
  exact h
theorem cels_upA {k t n : Nat} {a v : Int} (hs : gS G k = .inl (t, n)) (h0 : 0 ≤ a) : (cels G w).set k (ga G k, .inl (gt G t, n, .inl (upd (fun j => Int32.ofInt (w k (j : Int))) a.toNat (Int32.ofInt v)))) = cels G (up w k a v) :=
  cels_upd (fun k' h => up_cell h) (by rw [cel_A hs, upd_arr h0])
theorem jr_iast (F : Fx G X own cc nL d ret) {k n : Nat} {a v : Int} (hd : decode cc pc = .ok (.iastore, 1)) (hk : k < gn G) (hs : gS G k = .inl (0, n)) (hn : n < 2147483648)
    (kk : Jw G X post (pc + 1) lv rest (up w k a v)) (h0 : 0 ≤ a) (h1 : a < n) (hv : inR v) : Jw G X post pc lv (iv v :: iv a :: .ref (ga G k) :: rest) w := by
  intro H locs ls hP hD hS hO hl
  have ha : inR a := by omega
  refine va_iast F.1 F.2.1 F.2.2.2.2.2.1 hP hD hS k 0 (by rw [cels_get hk, cel_A hs]) rfl (iv_in ha h0 h1) hd (fun H1 locs1 hP1 hD1 hS1 => ?_)
  rw [iv_clamp ha, cels_upA hs h0] at hP1 hD1
  exact kk H1 locs1 ls hP1 hD1 hS1 (hO.upA hs hv) hl
theorem nar_byte {v : Int} (h : -128 ≤ v ∧ v ≤ 127) : vp_nar .byte (Int32.ofInt v) = Int32.ofInt v := by
  rw [vp_nar_byte, Int32.toInt8_ofInt]
  exact Int32.toInt_inj.mp (by rw [Int8.toInt_toInt32, Int8.toInt_ofInt_of_le (by omega) (by omega), iv_toInt (by omega)])
theorem nar_bool2 {v : Int} (h : 0 ≤ v ∧ v ≤ 1) : vp_nar .boolean (Int32.ofInt v) = Int32.ofInt v := by
  rcases (show v = 0 ∨ v = 1 by omega) with rfl | rfl <;> decide
theorem jr_bast (F : Fx G X own cc nL d ret) {k n : Nat} {a v : Int} (hd : decode cc pc = .ok (.bastore, 1)) (hk : k < gn G) (hs : gS G k = .inl (1, n)) (hn : n < 2147483648)
    (kk : Jw G X post (pc + 1) lv rest (up w k a v)) (h0 : 0 ≤ a) (h1 : a < n) (hv : -128 ≤ v ∧ v ≤ 127) : Jw G X post pc lv (iv v :: iv a :: .ref (ga G k) :: rest) w := by
  intro H locs ls hP hD hS hO hl
  have ha : inR a := by omega
  refine va_bast F.1 F.2.1 F.2.2.2.2.2.1 hP hD hS k 1 (by rw [cels_get hk, cel_A hs]) rfl (iv_in ha h0 h1) hd (fun H1 locs1 hP1 hD1 hS1 => ?_)
  rw [nar_byte hv, iv_clamp ha, cels_upA hs h0] at hP1 hD1
  exact kk H1 locs1 ls hP1 hD1 hS1 (hO.upA hs hv) hl
theorem jr_zast (F : Fx G X own cc nL d ret) {k n : Nat} {a v : Int} (hd : decode cc pc = .ok (.bastore, 1)) (hk : k < gn G) (hs : gS G k = .inl (2, n)) (hn : n < 2147483648)
    (kk : Jw G X post (pc + 1) lv rest (up w k a v)) (h0 : 0 ≤ a) (h1 : a < n) (hv : 0 ≤ v ∧ v ≤ 1) : Jw G X post pc lv (iv v :: iv a :: .ref (ga G k) :: rest) w := by
  intro H locs ls hP hD hS hO hl
  have ha : inR a := by omega
  refine va_zast F.1 F.2.1 F.2.2.2.2.2.1 hP hD hS k 2 (by rw [cels_get hk, cel_A hs]) rfl (iv_in ha h0 h1) hd (fun H1 locs1 hP1 hD1 hS1 => ?_)
  rw [nar_bool2 hv, iv_clamp ha, cels_upA hs h0] at hP1 hD1
  exact kk H1 locs1 ls hP1 hD1 hS1 (hO.upA hs hv) hl
theorem jr_alen (F : Fx G X own cc nL d ret) {k n : Nat} (hd : decode cc pc = .ok (.arraylength, 1)) (hk : k < gn G) (hs : gS G k = .inl (0, n))
    (kk : Jw G X post (pc + 1) lv (iv (n : Int) :: rest) w) : Jw G X post pc lv (.ref (ga G k) :: rest) w := by
  intro H locs ls hP hD hS hO hl
  exact va_alen F.1 F.2.1 F.2.2.2.2.2.1 hP k 0 (by rw [cels_get hk, cel_A hs]) rfl (iv_nat n) hd (kk H locs ls hP hD hS hO hl)
/-! the ends -/
theorem jr_end (F : Fx G X own cc nL d ret) {v : Option Value} {H : Heap} {locs : List Loc} (hp : post v w) (hP : va_P (gD G) vwCl (cels G w) H) (hD : va_D (xA X) (cels G w)) (hS : va_S (xA X) (xs X).heap H locs) (hO : okW G w) (t : State) (ht : t.heap = H) (hW : (xs X).WarmedH t.vm) : Qg G post (xA X) (xa X) (xs X) (.returned v) t :=
  ⟨⟨v, w, rfl, hp, hO, by rw [ht]; exact hP, va_K.moved hW.alike F.2.2.2.2.2.1, hD⟩, hS.F ht⟩
theorem jr_iret (F : Fx G X own cc nL d (some .int)) {x : Int32} (hd : decode cc pc = .ok (.ireturn, 1)) (hp : post (some (.int x)) w) : Jw G X post pc lv [.int x] w := by
  intro H locs ls hP hD hS hO hl
  exact W.iret (hlocks := F.2.2.2.2.2.2.2.2.1) F.1 F.2.1 F.2.2.2.2.2.2.2.1 (fun t ht hW => jr_end F hp hP hD hS hO t ht hW) hS.2.2 hd
theorem jr_zret (F : Fx G X own cc nL d (some .boolean)) {a : Int} (hd : decode cc pc = .ok (.ireturn, 1)) (hp : post (some (iv a)) w) (ha : 0 ≤ a ∧ a ≤ 1) : Jw G X post pc lv [iv a] w := by
  intro H locs ls hP hD hS hO hl
  exact W.zret (hlocks := F.2.2.2.2.2.2.2.2.1) F.1 F.2.1 F.2.2.2.2.2.2.2.1 (nar_bool ha).1 (fun t ht hW => jr_end F hp hP hD hS hO t ht hW) hS.2.2 hd
theorem jr_lret (F : Fx G X own cc nL d (some .long)) {x : Int64} (hd : decode cc pc = .ok (.lreturn, 1)) (hp : post (some (.long x)) w) : Jw G X post pc lv [.long x] w := by
  intro H locs ls hP hD hS hO hl
  exact W.lret (hlocks := F.2.2.2.2.2.2.2.2.1) F.1 F.2.1 F.2.2.2.2.2.2.2.1 (fun t ht hW => jr_end F hp hP hD hS hO t ht hW) hS.2.2 hd
theorem jr_vret (F : Fx G X own cc nL d none) (hd : decode cc pc = .ok (.return_, 1)) (hp : post none w) : Jw G X post pc lv [] w := by
  intro H locs ls hP hD hS hO hl
  exact W.vret (hlocks := F.2.2.2.2.2.2.2.2.1) F.1 F.2.1 F.2.2.2.2.2.2.2.1 (fun t ht hW => jr_end F hp hP hD hS hO t ht hW) hS.2.2 hd
end JH
end
section
/-! what the tables say of a call -/
def Cb (y : MethodName) (b : ByteArray) (nL : Nat) (ret : Option FieldType) (n : Nat) : Prop := Cond.initialized y.cls ∈ tb0 ∧ Cond.code y b nL ret ∈ tb0 ∧ y.cls ≠ "java/lang/invoke/MethodHandle" ∧ y.cls ≠ "java/lang/invoke/VarHandle" ∧ (parseMethodDescriptor y.desc).map (fun d => d.parameters.length) = some n
def Cv (own : String) (i : Nat) (y : MethodName) (b : ByteArray) (nL : Nat) (ret : Option FieldType) (n : Nat) : Prop := Cb y b nL ret n ∧ Cond.methodLink own i y ∈ tb0 ∧ Cond.instanceMethod y ∈ tb0 ∧ Cond.selects y.cls y y ∈ tb0
def Cs (own : String) (i : Nat) (y : MethodName) (b : ByteArray) (nL : Nat) (ret : Option FieldType) (n : Nat) : Prop := Cb y b nL ret n ∧ Cond.methodLink own i y ∈ tb0 ∧ Cond.static y ∈ tb0
def Cn (own : String) (i : Nat) (y : MethodName) (b : ByteArray) (nL : Nat) (ret : Option FieldType) (n : Nat) : Prop := Cb y b nL ret n ∧ (∃ h : String, (own, i, y, h) ∈ nst) ∧ Cond.static y ∈ tb0
section JC
variable {G : Gc} {X : Xc} {own : String} {cc : ByteArray} {nL d : Nat} {ret : Option FieldType} {post : Option Value → Wd → Prop} {pc : Nat} {lv : List (Option Value)} {st rest : List Value} {w : Wd}
theorem sp_blind {G : Gc} {w : Wd} {args : List Value} {sz : Nat} : FrameBlind (va_Pc args (fun U => U.heap.size = sz ∧ va_P (gD G) vwCl (cels G w) U.heap ∧ va_K (gD G) vwCl (gT G) U ∧ NWs U ∧ va_D (fun _ => True) (cels G w))) := by
  intro a U g mk q
  obtain ⟨q0, q1, qP, qK, qN, qD⟩ := q
  exact ⟨q0, q1, qP, va_K.moved (u := U) (U := U.calling g mk a) (Vm.Alike.refl U.vm) qK, NWs.same (u := U) (U := U.calling g mk a) rfl qN, qD⟩
theorem sp_pre {args : List Value} {H : Heap} (F : Fx G X own cc nL d ret) (hP : va_P (gD G) vwCl (cels G w) H) (hD : va_D (xA X) (cels G w)) : ∀ U : State, U.heap = H → (xs X).WarmedH U.vm → va_Pc args (fun U => U.heap.size = H.size ∧ va_P (gD G) vwCl (cels G w) U.heap ∧ va_K (gD G) vwCl (gT G) U ∧ NWs U ∧ va_D (fun _ => True) (cels G w)) args.toArray U :=
  fun U hU hW => ⟨rfl, by rw [hU], by rw [hU]; exact hP, va_K.moved hW.alike F.2.2.2.2.2.1, NWs.warm hW F.2.2.2.2.2.2.1, hD.weaken (fun _ _ _ _ => trivial)⟩
theorem sp_go {post1 : Option Value → Wd → Prop} {a : Array Value} {H : Heap} {locs : List Loc} {ls : Array Slot} (F : Fx G X own cc nL d ret) (hD : va_D (xA X) (cels G w)) (hS : va_S (xA X) (xs X).heap H locs) (hl : lh ls (xc X).maxLocals lv)
    (hr : va_Run (xp X) (gl G) (xe X) (xR X) (xs X) (xm X) (xa X) (xb X) (xt X) (xc X) H locs 0 0 0 0 (F0 (xm X) pc ls st) rest (Qg G post1 (va_A (cels G w) H.size) a) (va_A (cels G w) H.size))
    (kk : ∀ (v : Option Value) (w' : Wd), post1 v w' → Jw G X post (pc + 3) lv (v.toList ++ rest) w') :
    W (xp X) (gl G) (xe X) (xR X) (xs X) (xm X) (xa X) (xb X) (xt X) (xc X) H locs 0 0 (MQ (xb X) (Qg G post (xA X)) (xa X) (xs X) 0 0 (xA X)) (F0 (xm X) pc ls st) := by
  have hA : ∀ q, va_A (cels G w) H.size q → xA X q := fun q h => by
    rcases h with ⟨k, e, h⟩ | h
    · exact hD.2 k (q, e) h
    · exact F.2.2.2.2.2.2.2.2.2.2.2.2.2 q (Nat.le_trans hS.1 h)
  intro T hT XX
  obtain ⟨v, st₀, t, T', L, h0, X', hL, e1, e2, ⟨⟨v', w', hv, hp, hO', hP', hK', hD'⟩, hz, hk⟩, go⟩ := hr T hT XX
  cases hv
  rw [h0] at hz hk
  obtain ⟨t2, a1, b1⟩ := kk v w' hp T'.heap (locs ++ L) ls (by rw [e1]; exact hP') (hD'.weaken (fun _ q _ h => hA q.1 h))
    ⟨Nat.le_trans hS.1 (by rw [e1]; exact hz), fun q h1 h2 => by rw [e1, hk q (Nat.lt_of_lt_of_le h1 hS.1) (fun z => h2 (hA q z))]; exact hS.2.1 q h1 h2, fun q hq => by
      rcases List.mem_append.mp hq with h | h
      · exact hS.2.2 q h
      · exact hA _ (hL q h)⟩ hO' hl T' rfl X'
  exact ⟨t2, go t2 a1, b1⟩
theorem cb_of {y : MethodName} {b : ByteArray} {nL' n d' i : Nat} {ret' : Option FieldType} (F : Fx G X own cc nL d ret) (L : Cb y b nL' ret' n) (hl : Cond.methodLink own i y ∈ tb0) (hdd : d' + 1 ≤ d) (hml : nL' ≤ 21) :
    CallB (xR X) (xs X) (xa X) own i y b nL' ret' (Cond.code y b nL' ret' :: tb0) { frames := d', cells := 0, slots := 0, locals := 40 * d' } 0 0 n :=
  callB_of n F.2.2.2.2.1 (tb_good y b nL' ret' (fun _ h => h) L.2.1) rfl rfl rfl (F.2.2.2.2.1 _ L.1) (F.2.2.2.2.1 _ hl) ⟨L.2.2.1, L.2.2.2.1, L.2.2.2.2⟩
    ⟨by rw [F.2.2.2.2.2.2.2.2.2.1]; exact hdd, by rw [F.2.2.2.2.2.2.2.2.2.2.1]; show 8 + (nL' + 11) + 40 * d' ≤ 40 * d; omega⟩
theorem jr_callV (F : Fx G X own cc nL d ret) {i k ci d' nL' n : Nat} {y : MethodName} {b : ByteArray} {ret' : Option FieldType} {fs : List Nat} {As : List Value} {q : vw_C} {post1 : Option Value → Wd → Prop} (hd : decode cc pc = .ok (.invokevirtual i, 3)) (L : Cv own i y b nL' ret' n)
    (hc : Sp G d' y b nL' ret' (.ref (ga G k) :: As) w post1) (hk : k < gn G) (hs : gS G k = .inr (ci, fs)) (hq : vwCl[ci]? = some q) (hqc : q.1 = y.cls) (hn : As.length = n) (hdd : d' + 1 ≤ d) (hml : nL' ≤ 21) (hst : st = As.reverse ++ .ref (ga G k) :: rest) (hcat : (rest.map fun v => v.category).sum ≤ 8)
    (kk : ∀ (v : Option Value) (w' : Wd), post1 v w' → Jw G X post (pc + 3) lv (v.toList ++ rest) w') : Jw G X post pc lv st w := by
  intro H locs ls hP hD hS hO hl
  refine sp_go F hD hS hl (va_runV (As := As) ⟨F.1, F.2.1, F.2.2.1, F.2.2.2.1, F.2.2.2.2.1⟩ (hc hO H.size) ⟨cb_of F L.1 L.2.1 hdd hml, F.2.2.2.2.1 _ L.2.2.1, F.2.2.2.2.1 _ L.2.2.2⟩ ⟨sp_blind, ?_, sp_pre F hP hD⟩ rfl hn (by rw [← F.2.2.1]; exact hl.1) hst (lv_room hcat) hd ⟨Nat.zero_le _, Nat.zero_le _⟩) kk
  rw [← hqc]
  exact va_recv F.2.2.2.2.2.1 hP hq (by rw [cels_get hk, cel_O hs])
theorem jr_callS (F : Fx G X own cc nL d ret) {i d' nL' n : Nat} {y : MethodName} {b : ByteArray} {ret' : Option FieldType} {As : List Value} {post1 : Option Value → Wd → Prop} (hd : decode cc pc = .ok (.invokestatic i, 3)) (L : Cs own i y b nL' ret' n)
    (hc : Sp G d' y b nL' ret' As w post1) (hn : As.length = n) (hdd : d' + 1 ≤ d) (hml : nL' ≤ 21) (hst : st = As.reverse ++ rest) (hcat : (rest.map fun v => v.category).sum ≤ 8)
    (kk : ∀ (v : Option Value) (w' : Wd), post1 v w' → Jw G X post (pc + 3) lv (v.toList ++ rest) w') : Jw G X post pc lv st w := by
  intro H locs ls hP hD hS hO hl
  exact sp_go F hD hS hl (va_runS (As := As) ⟨F.1, F.2.1, F.2.2.1, F.2.2.2.1, F.2.2.2.2.1⟩ (hc hO H.size) ⟨cb_of F L.1 L.2.1 hdd hml, F.2.2.2.2.1 _ L.2.2⟩ ⟨sp_blind, sp_pre F hP hD⟩ rfl hn (by rw [← F.2.2.1]; exact hl.1) hst (lv_room hcat) hd ⟨Nat.zero_le _, Nat.zero_le _⟩) kk
theorem jr_callN (F : Fx G X own cc nL d ret) {i d' nL' n : Nat} {y : MethodName} {b : ByteArray} {ret' : Option FieldType} {As : List Value} {post1 : Option Value → Wd → Prop} (hd : decode cc pc = .ok (.invokestatic i, 3)) (L : Cn own i y b nL' ret' n)
    (hc : Sp G d' y b nL' ret' As w post1) (hn : As.length = n) (hdd : d' + 1 ≤ d) (hml : nL' ≤ 21) (hst : st = As.reverse ++ rest) (hcat : (rest.map fun v => v.category).sum ≤ 8)
    (kk : ∀ (v : Option Value) (w' : Wd), post1 v w' → Jw G X post (pc + 3) lv (v.toList ++ rest) w') : Jw G X post pc lv st w := by
  intro H locs ls hP hD hS hO hl
  obtain ⟨L1, ⟨h, L2⟩, L3⟩ := L
  exact sp_go F hD hS hl (va_runSN (As := As) ⟨F.1, F.2.1, F.2.2.1, F.2.2.2.1, F.2.2.2.2.1⟩ (hc hO H.size) ⟨va_cnB n F.2.2.2.2.1 (tb_good y b nL' ret' (fun _ h => h) L1.2.1) rfl rfl rfl (F.2.2.2.2.2.2.1 _ L2) (F.2.2.2.2.1 _ L1.1) ⟨L1.2.2.1, L1.2.2.2.1, L1.2.2.2.2⟩ ⟨by rw [F.2.2.2.2.2.2.2.2.2.1]; exact hdd, by rw [F.2.2.2.2.2.2.2.2.2.2.1]; show 8 + (nL' + 11) + 40 * d' ≤ 40 * d; omega⟩, F.2.2.2.2.1 _ L3, trivial⟩ ⟨sp_blind, sp_pre F hP hD⟩ rfl hn (by rw [← F.2.2.1]; exact hl.1) hst (lv_room hcat) hd ⟨Nat.zero_le _, Nat.zero_le _⟩) kk
theorem jr_aret (F : Fx G X own cc nL d ret) {n : String} (hr : ret = some (.object n)) {a : Nat} (hd : decode cc pc = .ok (.areturn, 1)) (hp : post (some (.ref a)) w) : Jw G X post pc lv [.ref a] w := by
  subst hr
  intro H locs ls hP hD hS hO hl
  exact W.aret (hlocks := F.2.2.2.2.2.2.2.2.1) F.1 F.2.1 F.2.2.2.2.2.2.2.1 (Or.inl ⟨n, rfl⟩) (Or.inr ⟨a, rfl⟩) (fun t ht hW => jr_end F hp hP hD hS hO t ht hW) hS.2.2 hd
end JC
end
section
abbrev cJ_max : ByteArray := prog_12_method_65_code
def yJ_max : MethodName := ⟨"java/lang/Math", "max", "(II)I"⟩
abbrev cJ_min : ByteArray := prog_12_method_69_code
def yJ_min : MethodName := ⟨"java/lang/Math", "min", "(II)I"⟩
abbrev cJ_abs : ByteArray := prog_12_method_59_code
def yJ_abs : MethodName := ⟨"java/lang/Math", "abs", "(I)I"⟩
abbrev cJ_bitCount : ByteArray := prog_11_method_49_code
def yJ_bitCount : MethodName := ⟨"java/lang/Integer", "bitCount", "(I)I"⟩
theorem wsX0_in : ∀ w ∈ u_ws RX0 TX0 2, w ∈ tb0 := by
  intro w hw
  obtain ⟨k, hk, rfl⟩ := List.mem_map.mp hw
  have hk := List.mem_range.mp hk
  match k, hk with
  | 0, _ => exact tb_in 208 (by decide +kernel) (by decide +kernel)
  | 1, _ => exact tb_in 210 (by decide +kernel) (by decide +kernel)
  | q + 2, h => exact absurd h (by omega)
theorem wsX1_in : ∀ w ∈ u_ws RX1 TX1 18, w ∈ tb0 := by
  intro w hw
  obtain ⟨k, hk, rfl⟩ := List.mem_map.mp hw
  have hk := List.mem_range.mp hk
  match k, hk with
  | 0, _ => exact tb_in 231 (by decide +kernel) (by decide +kernel)
  | 1, _ => exact tb_in 233 (by decide +kernel) (by decide +kernel)
  | 2, _ => exact tb_in 235 (by decide +kernel) (by decide +kernel)
  | 3, _ => exact tb_in 237 (by decide +kernel) (by decide +kernel)
  | 4, _ => exact tb_in 239 (by decide +kernel) (by decide +kernel)
  | 5, _ => exact tb_in 241 (by decide +kernel) (by decide +kernel)
  | 6, _ => exact tb_in 243 (by decide +kernel) (by decide +kernel)
  | 7, _ => exact tb_in 245 (by decide +kernel) (by decide +kernel)
  | 8, _ => exact tb_in 247 (by decide +kernel) (by decide +kernel)
  | 9, _ => exact tb_in 249 (by decide +kernel) (by decide +kernel)
  | 10, _ => exact tb_in 251 (by decide +kernel) (by decide +kernel)
  | 11, _ => exact tb_in 253 (by decide +kernel) (by decide +kernel)
  | 12, _ => exact tb_in 255 (by decide +kernel) (by decide +kernel)
  | 13, _ => exact tb_in 257 (by decide +kernel) (by decide +kernel)
  | 14, _ => exact tb_in 259 (by decide +kernel) (by decide +kernel)
  | 15, _ => exact tb_in 261 (by decide +kernel) (by decide +kernel)
  | 16, _ => exact tb_in 263 (by decide +kernel) (by decide +kernel)
  | 17, _ => exact tb_in 265 (by decide +kernel) (by decide +kernel)
  | q + 18, h => exact absurd h (by omega)
theorem wsX2_in : ∀ w ∈ u_ws RX2 TX2 4, w ∈ tb0 := by
  intro w hw
  obtain ⟨k, hk, rfl⟩ := List.mem_map.mp hw
  have hk := List.mem_range.mp hk
  match k, hk with
  | 0, _ => exact tb_in 185 (by decide +kernel) (by decide +kernel)
  | 1, _ => exact tb_in 187 (by decide +kernel) (by decide +kernel)
  | 2, _ => exact tb_in 189 (by decide +kernel) (by decide +kernel)
  | 3, _ => exact tb_in 191 (by decide +kernel) (by decide +kernel)
  | q + 4, h => exact absurd h (by omega)
theorem wsX3_in : ∀ w ∈ u_ws RX3 TX3 5, w ∈ tb0 := by
  intro w hw
  obtain ⟨k, hk, rfl⟩ := List.mem_map.mp hw
  have hk := List.mem_range.mp hk
  match k, hk with
  | 0, _ => exact tb_in 94 (by decide +kernel) (by decide +kernel)
  | 1, _ => exact tb_in 96 (by decide +kernel) (by decide +kernel)
  | 2, _ => exact tb_in 98 (by decide +kernel) (by decide +kernel)
  | 3, _ => exact tb_in 100 (by decide +kernel) (by decide +kernel)
  | 4, _ => exact tb_in 102 (by decide +kernel) (by decide +kernel)
  | q + 5, h => exact absurd h (by omega)
theorem wsX4_in : ∀ w ∈ u_ws RX4 TX4 3, w ∈ tb0 := by
  intro w hw
  obtain ⟨k, hk, rfl⟩ := List.mem_map.mp hw
  have hk := List.mem_range.mp hk
  match k, hk with
  | 0, _ => exact tb_in 140 (by decide +kernel) (by decide +kernel)
  | 1, _ => exact tb_in 142 (by decide +kernel) (by decide +kernel)
  | 2, _ => exact tb_in 144 (by decide +kernel) (by decide +kernel)
  | q + 3, h => exact absurd h (by omega)
theorem wsX5_in : ∀ w ∈ u_ws RX5 TX5 7, w ∈ tb0 := by
  intro w hw
  obtain ⟨k, hk, rfl⟩ := List.mem_map.mp hw
  have hk := List.mem_range.mp hk
  match k, hk with
  | 0, _ => exact tb_in 160 (by decide +kernel) (by decide +kernel)
  | 1, _ => exact tb_in 162 (by decide +kernel) (by decide +kernel)
  | 2, _ => exact tb_in 164 (by decide +kernel) (by decide +kernel)
  | 3, _ => exact tb_in 166 (by decide +kernel) (by decide +kernel)
  | 4, _ => exact tb_in 168 (by decide +kernel) (by decide +kernel)
  | 5, _ => exact tb_in 170 (by decide +kernel) (by decide +kernel)
  | 6, _ => exact tb_in 172 (by decide +kernel) (by decide +kernel)
  | q + 7, h => exact absurd h (by omega)
theorem wsX6_in : ∀ w ∈ u_ws RX6 TX6 5, w ∈ tb0 := by
  intro w hw
  obtain ⟨k, hk, rfl⟩ := List.mem_map.mp hw
  have hk := List.mem_range.mp hk
  match k, hk with
  | 0, _ => exact tb_in 120 (by decide +kernel) (by decide +kernel)
  | 1, _ => exact tb_in 122 (by decide +kernel) (by decide +kernel)
  | 2, _ => exact tb_in 124 (by decide +kernel) (by decide +kernel)
  | 3, _ => exact tb_in 126 (by decide +kernel) (by decide +kernel)
  | 4, _ => exact tb_in 128 (by decide +kernel) (by decide +kernel)
  | q + 5, h => exact absurd h (by omega)
theorem wsX7_in : ∀ w ∈ u_ws RX7 TX7 9, w ∈ tb0 := by
  intro w hw
  obtain ⟨k, hk, rfl⟩ := List.mem_map.mp hw
  have hk := List.mem_range.mp hk
  match k, hk with
  | 0, _ => exact tb_in 277 (by decide +kernel) (by decide +kernel)
  | 1, _ => exact tb_in 279 (by decide +kernel) (by decide +kernel)
  | 2, _ => exact tb_in 281 (by decide +kernel) (by decide +kernel)
  | 3, _ => exact tb_in 283 (by decide +kernel) (by decide +kernel)
  | 4, _ => exact tb_in 285 (by decide +kernel) (by decide +kernel)
  | 5, _ => exact tb_in 287 (by decide +kernel) (by decide +kernel)
  | 6, _ => exact tb_in 289 (by decide +kernel) (by decide +kernel)
  | 7, _ => exact tb_in 291 (by decide +kernel) (by decide +kernel)
  | 8, _ => exact tb_in 293 (by decide +kernel) (by decide +kernel)
  | q + 9, h => exact absurd h (by omega)
theorem wsX8_in : ∀ w ∈ u_ws RX8 TX8 34, w ∈ tb0 := by
  intro w hw
  obtain ⟨k, hk, rfl⟩ := List.mem_map.mp hw
  have hk := List.mem_range.mp hk
  match k, hk with
  | 0, _ => exact tb_in 940 (by decide +kernel) (by decide +kernel)
  | 1, _ => exact tb_in 942 (by decide +kernel) (by decide +kernel)
  | 2, _ => exact tb_in 944 (by decide +kernel) (by decide +kernel)
  | 3, _ => exact tb_in 946 (by decide +kernel) (by decide +kernel)
  | 4, _ => exact tb_in 948 (by decide +kernel) (by decide +kernel)
  | 5, _ => exact tb_in 950 (by decide +kernel) (by decide +kernel)
  | 6, _ => exact tb_in 952 (by decide +kernel) (by decide +kernel)
  | 7, _ => exact tb_in 954 (by decide +kernel) (by decide +kernel)
  | 8, _ => exact tb_in 956 (by decide +kernel) (by decide +kernel)
  | 9, _ => exact tb_in 958 (by decide +kernel) (by decide +kernel)
  | 10, _ => exact tb_in 960 (by decide +kernel) (by decide +kernel)
  | 11, _ => exact tb_in 962 (by decide +kernel) (by decide +kernel)
  | 12, _ => exact tb_in 964 (by decide +kernel) (by decide +kernel)
  | 13, _ => exact tb_in 966 (by decide +kernel) (by decide +kernel)
  | 14, _ => exact tb_in 968 (by decide +kernel) (by decide +kernel)
  | 15, _ => exact tb_in 970 (by decide +kernel) (by decide +kernel)
  | 16, _ => exact tb_in 972 (by decide +kernel) (by decide +kernel)
  | 17, _ => exact tb_in 974 (by decide +kernel) (by decide +kernel)
  | 18, _ => exact tb_in 976 (by decide +kernel) (by decide +kernel)
  | 19, _ => exact tb_in 978 (by decide +kernel) (by decide +kernel)
  | 20, _ => exact tb_in 980 (by decide +kernel) (by decide +kernel)
  | 21, _ => exact tb_in 982 (by decide +kernel) (by decide +kernel)
  | 22, _ => exact tb_in 984 (by decide +kernel) (by decide +kernel)
  | 23, _ => exact tb_in 986 (by decide +kernel) (by decide +kernel)
  | 24, _ => exact tb_in 988 (by decide +kernel) (by decide +kernel)
  | 25, _ => exact tb_in 990 (by decide +kernel) (by decide +kernel)
  | 26, _ => exact tb_in 992 (by decide +kernel) (by decide +kernel)
  | 27, _ => exact tb_in 994 (by decide +kernel) (by decide +kernel)
  | 28, _ => exact tb_in 996 (by decide +kernel) (by decide +kernel)
  | 29, _ => exact tb_in 998 (by decide +kernel) (by decide +kernel)
  | 30, _ => exact tb_in 1000 (by decide +kernel) (by decide +kernel)
  | 31, _ => exact tb_in 1002 (by decide +kernel) (by decide +kernel)
  | 32, _ => exact tb_in 1004 (by decide +kernel) (by decide +kernel)
  | 33, _ => exact tb_in 1006 (by decide +kernel) (by decide +kernel)
  | q + 34, h => exact absurd h (by omega)
theorem fg_X7_10 : Fg RX7 10 7 0 := ⟨RX7, TX7, 9, rfl, by decide, wsX7_in, (tb_in 268 (by decide +kernel) (by decide +kernel))⟩
theorem fg_X7_21 : Fg RX7 21 7 1 := ⟨RX7, TX7, 9, rfl, by decide, wsX7_in, (tb_in 269 (by decide +kernel) (by decide +kernel))⟩
theorem fg_X7_25 : Fg RX7 25 7 2 := ⟨RX7, TX7, 9, rfl, by decide, wsX7_in, (tb_in 270 (by decide +kernel) (by decide +kernel))⟩
theorem fg_X7_31 : Fg RX7 31 7 3 := ⟨RX7, TX7, 9, rfl, by decide, wsX7_in, (tb_in 271 (by decide +kernel) (by decide +kernel))⟩
theorem fg_X7_35 : Fg RX7 35 7 4 := ⟨RX7, TX7, 9, rfl, by decide, wsX7_in, (tb_in 272 (by decide +kernel) (by decide +kernel))⟩
theorem fg_X7_41 : Fg RX7 41 7 5 := ⟨RX7, TX7, 9, rfl, by decide, wsX7_in, (tb_in 273 (by decide +kernel) (by decide +kernel))⟩
theorem fg_X7_48 : Fg RX7 48 7 6 := ⟨RX7, TX7, 9, rfl, by decide, wsX7_in, (tb_in 274 (by decide +kernel) (by decide +kernel))⟩
theorem fg_X7_57 : Fg RX7 57 7 7 := ⟨RX7, TX7, 9, rfl, by decide, wsX7_in, (tb_in 275 (by decide +kernel) (by decide +kernel))⟩
theorem fg_X7_61 : Fg RX7 61 7 8 := ⟨RX7, TX7, 9, rfl, by decide, wsX7_in, (tb_in 276 (by decide +kernel) (by decide +kernel))⟩
theorem fp_X7_61 : Fp RX7 61 7 8 .int := ⟨RX7, TX7, 9, tyX7, rfl, by decide, wsX7_in, (tb_in 276 (by decide +kernel) (by decide +kernel)), tyX7_ok, nmX7, rfl, (by decide +kernel)⟩
theorem fg_X0_11 : Fg RX0 11 0 0 := ⟨RX0, TX0, 2, rfl, by decide, wsX0_in, (tb_in 206 (by decide +kernel) (by decide +kernel))⟩
theorem fg_X0_15 : Fg RX0 15 0 1 := ⟨RX0, TX0, 2, rfl, by decide, wsX0_in, (tb_in 207 (by decide +kernel) (by decide +kernel))⟩
theorem fp_X0_15 : Fp RX0 15 0 1 .int := ⟨RX0, TX0, 2, tyX0, rfl, by decide, wsX0_in, (tb_in 207 (by decide +kernel) (by decide +kernel)), tyX0_ok, nmX0, rfl, (by decide +kernel)⟩
theorem fg_X1_9 : Fg RX1 9 1 0 := ⟨RX1, TX1, 18, rfl, by decide, wsX1_in, (tb_in 213 (by decide +kernel) (by decide +kernel))⟩
theorem fg_X1_15 : Fg RX1 15 1 1 := ⟨RX1, TX1, 18, rfl, by decide, wsX1_in, (tb_in 214 (by decide +kernel) (by decide +kernel))⟩
theorem fg_X1_19 : Fg RX1 19 1 2 := ⟨RX1, TX1, 18, rfl, by decide, wsX1_in, (tb_in 215 (by decide +kernel) (by decide +kernel))⟩
theorem fg_X1_25 : Fg RX1 25 1 3 := ⟨RX1, TX1, 18, rfl, by decide, wsX1_in, (tb_in 216 (by decide +kernel) (by decide +kernel))⟩
theorem fg_X1_29 : Fg RX1 29 1 4 := ⟨RX1, TX1, 18, rfl, by decide, wsX1_in, (tb_in 217 (by decide +kernel) (by decide +kernel))⟩
theorem fg_X1_32 : Fg RX1 32 1 5 := ⟨RX1, TX1, 18, rfl, by decide, wsX1_in, (tb_in 218 (by decide +kernel) (by decide +kernel))⟩
theorem fg_X1_35 : Fg RX1 35 1 6 := ⟨RX1, TX1, 18, rfl, by decide, wsX1_in, (tb_in 219 (by decide +kernel) (by decide +kernel))⟩
theorem fg_X1_39 : Fg RX1 39 1 7 := ⟨RX1, TX1, 18, rfl, by decide, wsX1_in, (tb_in 220 (by decide +kernel) (by decide +kernel))⟩
theorem fg_X1_42 : Fg RX1 42 1 8 := ⟨RX1, TX1, 18, rfl, by decide, wsX1_in, (tb_in 221 (by decide +kernel) (by decide +kernel))⟩
theorem fg_X1_45 : Fg RX1 45 1 9 := ⟨RX1, TX1, 18, rfl, by decide, wsX1_in, (tb_in 222 (by decide +kernel) (by decide +kernel))⟩
theorem fg_X1_48 : Fg RX1 48 1 10 := ⟨RX1, TX1, 18, rfl, by decide, wsX1_in, (tb_in 223 (by decide +kernel) (by decide +kernel))⟩
theorem fg_X1_51 : Fg RX1 51 1 11 := ⟨RX1, TX1, 18, rfl, by decide, wsX1_in, (tb_in 224 (by decide +kernel) (by decide +kernel))⟩
theorem fg_X1_54 : Fg RX1 54 1 12 := ⟨RX1, TX1, 18, rfl, by decide, wsX1_in, (tb_in 225 (by decide +kernel) (by decide +kernel))⟩
theorem fg_X1_57 : Fg RX1 57 1 13 := ⟨RX1, TX1, 18, rfl, by decide, wsX1_in, (tb_in 226 (by decide +kernel) (by decide +kernel))⟩
theorem fp_X1_57 : Fp RX1 57 1 13 .int := ⟨RX1, TX1, 18, tyX1, rfl, by decide, wsX1_in, (tb_in 226 (by decide +kernel) (by decide +kernel)), tyX1_ok, nmX1, rfl, (by decide +kernel)⟩
theorem fg_X1_61 : Fg RX1 61 1 14 := ⟨RX1, TX1, 18, rfl, by decide, wsX1_in, (tb_in 227 (by decide +kernel) (by decide +kernel))⟩
theorem fp_X1_61 : Fp RX1 61 1 14 .int := ⟨RX1, TX1, 18, tyX1, rfl, by decide, wsX1_in, (tb_in 227 (by decide +kernel) (by decide +kernel)), tyX1_ok, nmX1, rfl, (by decide +kernel)⟩
theorem fg_X1_64 : Fg RX1 64 1 15 := ⟨RX1, TX1, 18, rfl, by decide, wsX1_in, (tb_in 228 (by decide +kernel) (by decide +kernel))⟩
theorem fp_X1_64 : Fp RX1 64 1 15 .int := ⟨RX1, TX1, 18, tyX1, rfl, by decide, wsX1_in, (tb_in 228 (by decide +kernel) (by decide +kernel)), tyX1_ok, nmX1, rfl, (by decide +kernel)⟩
theorem fg_X1_67 : Fg RX1 67 1 16 := ⟨RX1, TX1, 18, rfl, by decide, wsX1_in, (tb_in 229 (by decide +kernel) (by decide +kernel))⟩
theorem fp_X1_67 : Fp RX1 67 1 16 .int := ⟨RX1, TX1, 18, tyX1, rfl, by decide, wsX1_in, (tb_in 229 (by decide +kernel) (by decide +kernel)), tyX1_ok, nmX1, rfl, (by decide +kernel)⟩
theorem fg_X1_70 : Fg RX1 70 1 17 := ⟨RX1, TX1, 18, rfl, by decide, wsX1_in, (tb_in 230 (by decide +kernel) (by decide +kernel))⟩
theorem fp_X1_70 : Fp RX1 70 1 17 .boolean := ⟨RX1, TX1, 18, tyX1, rfl, by decide, wsX1_in, (tb_in 230 (by decide +kernel) (by decide +kernel)), tyX1_ok, nmX1, rfl, (by decide +kernel)⟩
theorem fg_X2_9 : Fg RX2 9 2 0 := ⟨RX2, TX2, 4, rfl, by decide, wsX2_in, (tb_in 181 (by decide +kernel) (by decide +kernel))⟩
theorem fg_X2_15 : Fg RX2 15 2 1 := ⟨RX2, TX2, 4, rfl, by decide, wsX2_in, (tb_in 182 (by decide +kernel) (by decide +kernel))⟩
theorem fp_X2_15 : Fp RX2 15 2 1 .int := ⟨RX2, TX2, 4, tyX2, rfl, by decide, wsX2_in, (tb_in 182 (by decide +kernel) (by decide +kernel)), tyX2_ok, nmX2, rfl, (by decide +kernel)⟩
theorem fg_X2_19 : Fg RX2 19 2 2 := ⟨RX2, TX2, 4, rfl, by decide, wsX2_in, (tb_in 183 (by decide +kernel) (by decide +kernel))⟩
theorem fp_X2_19 : Fp RX2 19 2 2 .int := ⟨RX2, TX2, 4, tyX2, rfl, by decide, wsX2_in, (tb_in 183 (by decide +kernel) (by decide +kernel)), tyX2_ok, nmX2, rfl, (by decide +kernel)⟩
theorem fg_X2_22 : Fg RX2 22 2 3 := ⟨RX2, TX2, 4, rfl, by decide, wsX2_in, (tb_in 184 (by decide +kernel) (by decide +kernel))⟩
theorem fp_X2_22 : Fp RX2 22 2 3 .int := ⟨RX2, TX2, 4, tyX2, rfl, by decide, wsX2_in, (tb_in 184 (by decide +kernel) (by decide +kernel)), tyX2_ok, nmX2, rfl, (by decide +kernel)⟩
theorem fg_X3_11 : Fg RX3 11 3 0 := ⟨RX3, TX3, 5, rfl, by decide, wsX3_in, (tb_in 89 (by decide +kernel) (by decide +kernel))⟩
theorem fg_X3_15 : Fg RX3 15 3 1 := ⟨RX3, TX3, 5, rfl, by decide, wsX3_in, (tb_in 90 (by decide +kernel) (by decide +kernel))⟩
theorem fg_X3_18 : Fg RX3 18 3 2 := ⟨RX3, TX3, 5, rfl, by decide, wsX3_in, (tb_in 91 (by decide +kernel) (by decide +kernel))⟩
theorem fg_X3_21 : Fg RX3 21 3 3 := ⟨RX3, TX3, 5, rfl, by decide, wsX3_in, (tb_in 92 (by decide +kernel) (by decide +kernel))⟩
theorem fp_X3_21 : Fp RX3 21 3 3 .int := ⟨RX3, TX3, 5, tyX3, rfl, by decide, wsX3_in, (tb_in 92 (by decide +kernel) (by decide +kernel)), tyX3_ok, nmX3, rfl, (by decide +kernel)⟩
theorem fg_X3_25 : Fg RX3 25 3 4 := ⟨RX3, TX3, 5, rfl, by decide, wsX3_in, (tb_in 93 (by decide +kernel) (by decide +kernel))⟩
theorem fp_X3_25 : Fp RX3 25 3 4 .int := ⟨RX3, TX3, 5, tyX3, rfl, by decide, wsX3_in, (tb_in 93 (by decide +kernel) (by decide +kernel)), tyX3_ok, nmX3, rfl, (by decide +kernel)⟩
theorem fg_X4_9 : Fg RX4 9 4 0 := ⟨RX4, TX4, 3, rfl, by decide, wsX4_in, (tb_in 137 (by decide +kernel) (by decide +kernel))⟩
theorem fg_X4_15 : Fg RX4 15 4 1 := ⟨RX4, TX4, 3, rfl, by decide, wsX4_in, (tb_in 138 (by decide +kernel) (by decide +kernel))⟩
theorem fg_X4_18 : Fg RX4 18 4 2 := ⟨RX4, TX4, 3, rfl, by decide, wsX4_in, (tb_in 139 (by decide +kernel) (by decide +kernel))⟩
theorem fp_X4_18 : Fp RX4 18 4 2 .int := ⟨RX4, TX4, 3, tyX4, rfl, by decide, wsX4_in, (tb_in 139 (by decide +kernel) (by decide +kernel)), tyX4_ok, nmX4, rfl, (by decide +kernel)⟩
theorem fg_X5_9 : Fg RX5 9 5 0 := ⟨RX5, TX5, 7, rfl, by decide, wsX5_in, (tb_in 153 (by decide +kernel) (by decide +kernel))⟩
theorem fp_X5_9 : Fp RX5 9 5 0 .int := ⟨RX5, TX5, 7, tyX5, rfl, by decide, wsX5_in, (tb_in 153 (by decide +kernel) (by decide +kernel)), tyX5_ok, nmX5, rfl, (by decide +kernel)⟩
theorem fg_X5_15 : Fg RX5 15 5 1 := ⟨RX5, TX5, 7, rfl, by decide, wsX5_in, (tb_in 154 (by decide +kernel) (by decide +kernel))⟩
theorem fp_X5_15 : Fp RX5 15 5 1 .int := ⟨RX5, TX5, 7, tyX5, rfl, by decide, wsX5_in, (tb_in 154 (by decide +kernel) (by decide +kernel)), tyX5_ok, nmX5, rfl, (by decide +kernel)⟩
theorem fg_X5_18 : Fg RX5 18 5 2 := ⟨RX5, TX5, 7, rfl, by decide, wsX5_in, (tb_in 155 (by decide +kernel) (by decide +kernel))⟩
theorem fp_X5_18 : Fp RX5 18 5 2 .int := ⟨RX5, TX5, 7, tyX5, rfl, by decide, wsX5_in, (tb_in 155 (by decide +kernel) (by decide +kernel)), tyX5_ok, nmX5, rfl, (by decide +kernel)⟩
theorem fg_X5_21 : Fg RX5 21 5 3 := ⟨RX5, TX5, 7, rfl, by decide, wsX5_in, (tb_in 156 (by decide +kernel) (by decide +kernel))⟩
theorem fp_X5_21 : Fp RX5 21 5 3 .int := ⟨RX5, TX5, 7, tyX5, rfl, by decide, wsX5_in, (tb_in 156 (by decide +kernel) (by decide +kernel)), tyX5_ok, nmX5, rfl, (by decide +kernel)⟩
theorem fg_X5_24 : Fg RX5 24 5 4 := ⟨RX5, TX5, 7, rfl, by decide, wsX5_in, (tb_in 157 (by decide +kernel) (by decide +kernel))⟩
theorem fp_X5_24 : Fp RX5 24 5 4 .long := ⟨RX5, TX5, 7, tyX5, rfl, by decide, wsX5_in, (tb_in 157 (by decide +kernel) (by decide +kernel)), tyX5_ok, nmX5, rfl, (by decide +kernel)⟩
theorem fg_X5_28 : Fg RX5 28 5 5 := ⟨RX5, TX5, 7, rfl, by decide, wsX5_in, (tb_in 158 (by decide +kernel) (by decide +kernel))⟩
theorem fp_X5_28 : Fp RX5 28 5 5 .long := ⟨RX5, TX5, 7, tyX5, rfl, by decide, wsX5_in, (tb_in 158 (by decide +kernel) (by decide +kernel)), tyX5_ok, nmX5, rfl, (by decide +kernel)⟩
theorem fg_X5_31 : Fg RX5 31 5 6 := ⟨RX5, TX5, 7, rfl, by decide, wsX5_in, (tb_in 159 (by decide +kernel) (by decide +kernel))⟩
theorem fp_X5_31 : Fp RX5 31 5 6 .long := ⟨RX5, TX5, 7, tyX5, rfl, by decide, wsX5_in, (tb_in 159 (by decide +kernel) (by decide +kernel)), tyX5_ok, nmX5, rfl, (by decide +kernel)⟩
theorem fg_X6_13 : Fg RX6 13 6 2 := ⟨RX6, TX6, 5, rfl, by decide, wsX6_in, (tb_in 117 (by decide +kernel) (by decide +kernel))⟩
theorem fg_X6_19 : Fg RX6 19 6 0 := ⟨RX6, TX6, 5, rfl, by decide, wsX6_in, (tb_in 115 (by decide +kernel) (by decide +kernel))⟩
theorem fg_X6_23 : Fg RX6 23 6 1 := ⟨RX6, TX6, 5, rfl, by decide, wsX6_in, (tb_in 116 (by decide +kernel) (by decide +kernel))⟩
theorem fg_X6_26 : Fg RX6 26 6 3 := ⟨RX6, TX6, 5, rfl, by decide, wsX6_in, (tb_in 118 (by decide +kernel) (by decide +kernel))⟩
theorem fp_X6_26 : Fp RX6 26 6 3 .int := ⟨RX6, TX6, 5, tyX6, rfl, by decide, wsX6_in, (tb_in 118 (by decide +kernel) (by decide +kernel)), tyX6_ok, nmX6, rfl, (by decide +kernel)⟩
theorem fg_X6_29 : Fg RX6 29 6 4 := ⟨RX6, TX6, 5, rfl, by decide, wsX6_in, (tb_in 119 (by decide +kernel) (by decide +kernel))⟩
theorem fp_X6_29 : Fp RX6 29 6 4 .int := ⟨RX6, TX6, 5, tyX6, rfl, by decide, wsX6_in, (tb_in 119 (by decide +kernel) (by decide +kernel)), tyX6_ok, nmX6, rfl, (by decide +kernel)⟩
theorem fg_X8_7 : Fg RX8 7 8 1 := ⟨RX8, TX8, 34, rfl, by decide, wsX8_in, (tb_in 907 (by decide +kernel) (by decide +kernel))⟩
theorem fg_X8_13 : Fg RX8 13 8 2 := ⟨RX8, TX8, 34, rfl, by decide, wsX8_in, (tb_in 908 (by decide +kernel) (by decide +kernel))⟩
theorem fg_X8_16 : Fg RX8 16 8 3 := ⟨RX8, TX8, 34, rfl, by decide, wsX8_in, (tb_in 909 (by decide +kernel) (by decide +kernel))⟩
theorem fg_X8_19 : Fg RX8 19 8 4 := ⟨RX8, TX8, 34, rfl, by decide, wsX8_in, (tb_in 910 (by decide +kernel) (by decide +kernel))⟩
theorem fg_X8_22 : Fg RX8 22 8 5 := ⟨RX8, TX8, 34, rfl, by decide, wsX8_in, (tb_in 911 (by decide +kernel) (by decide +kernel))⟩
theorem fg_X8_25 : Fg RX8 25 8 6 := ⟨RX8, TX8, 34, rfl, by decide, wsX8_in, (tb_in 912 (by decide +kernel) (by decide +kernel))⟩
theorem fg_X8_28 : Fg RX8 28 8 7 := ⟨RX8, TX8, 34, rfl, by decide, wsX8_in, (tb_in 913 (by decide +kernel) (by decide +kernel))⟩
theorem fg_X8_31 : Fg RX8 31 8 9 := ⟨RX8, TX8, 34, rfl, by decide, wsX8_in, (tb_in 915 (by decide +kernel) (by decide +kernel))⟩
theorem fg_X8_34 : Fg RX8 34 8 10 := ⟨RX8, TX8, 34, rfl, by decide, wsX8_in, (tb_in 916 (by decide +kernel) (by decide +kernel))⟩
theorem fg_X8_37 : Fg RX8 37 8 12 := ⟨RX8, TX8, 34, rfl, by decide, wsX8_in, (tb_in 918 (by decide +kernel) (by decide +kernel))⟩
theorem fg_X8_41 : Fg RX8 41 8 13 := ⟨RX8, TX8, 34, rfl, by decide, wsX8_in, (tb_in 919 (by decide +kernel) (by decide +kernel))⟩
theorem fg_X8_44 : Fg RX8 44 8 14 := ⟨RX8, TX8, 34, rfl, by decide, wsX8_in, (tb_in 920 (by decide +kernel) (by decide +kernel))⟩
theorem fg_X8_47 : Fg RX8 47 8 15 := ⟨RX8, TX8, 34, rfl, by decide, wsX8_in, (tb_in 921 (by decide +kernel) (by decide +kernel))⟩
theorem fg_X8_50 : Fg RX8 50 8 17 := ⟨RX8, TX8, 34, rfl, by decide, wsX8_in, (tb_in 923 (by decide +kernel) (by decide +kernel))⟩
theorem fg_X8_53 : Fg RX8 53 8 21 := ⟨RX8, TX8, 34, rfl, by decide, wsX8_in, (tb_in 927 (by decide +kernel) (by decide +kernel))⟩
theorem fg_X8_56 : Fg RX8 56 8 22 := ⟨RX8, TX8, 34, rfl, by decide, wsX8_in, (tb_in 928 (by decide +kernel) (by decide +kernel))⟩
theorem fg_X8_60 : Fg RX8 60 8 23 := ⟨RX8, TX8, 34, rfl, by decide, wsX8_in, (tb_in 929 (by decide +kernel) (by decide +kernel))⟩
theorem fg_X8_63 : Fg RX8 63 8 24 := ⟨RX8, TX8, 34, rfl, by decide, wsX8_in, (tb_in 930 (by decide +kernel) (by decide +kernel))⟩
theorem fg_X8_66 : Fg RX8 66 8 26 := ⟨RX8, TX8, 34, rfl, by decide, wsX8_in, (tb_in 932 (by decide +kernel) (by decide +kernel))⟩
theorem fg_X8_69 : Fg RX8 69 8 27 := ⟨RX8, TX8, 34, rfl, by decide, wsX8_in, (tb_in 933 (by decide +kernel) (by decide +kernel))⟩
theorem fg_X8_72 : Fg RX8 72 8 28 := ⟨RX8, TX8, 34, rfl, by decide, wsX8_in, (tb_in 934 (by decide +kernel) (by decide +kernel))⟩
theorem fg_X8_75 : Fg RX8 75 8 29 := ⟨RX8, TX8, 34, rfl, by decide, wsX8_in, (tb_in 935 (by decide +kernel) (by decide +kernel))⟩
theorem fg_X8_78 : Fg RX8 78 8 31 := ⟨RX8, TX8, 34, rfl, by decide, wsX8_in, (tb_in 937 (by decide +kernel) (by decide +kernel))⟩
theorem fg_X8_81 : Fg RX8 81 8 32 := ⟨RX8, TX8, 34, rfl, by decide, wsX8_in, (tb_in 938 (by decide +kernel) (by decide +kernel))⟩
theorem fg_X8_84 : Fg RX8 84 8 0 := ⟨RX8, TX8, 34, rfl, by decide, wsX8_in, (tb_in 906 (by decide +kernel) (by decide +kernel))⟩
theorem fp_X8_84 : Fp RX8 84 8 0 .int := ⟨RX8, TX8, 34, tyX8, rfl, by decide, wsX8_in, (tb_in 906 (by decide +kernel) (by decide +kernel)), tyX8_ok, nmX8, rfl, (by decide +kernel)⟩
theorem fg_X8_122 : Fg RX8 122 8 8 := ⟨RX8, TX8, 34, rfl, by decide, wsX8_in, (tb_in 914 (by decide +kernel) (by decide +kernel))⟩
theorem fp_X8_122 : Fp RX8 122 8 8 .int := ⟨RX8, TX8, 34, tyX8, rfl, by decide, wsX8_in, (tb_in 914 (by decide +kernel) (by decide +kernel)), tyX8_ok, nmX8, rfl, (by decide +kernel)⟩
theorem fg_X8_140 : Fg RX8 140 8 11 := ⟨RX8, TX8, 34, rfl, by decide, wsX8_in, (tb_in 917 (by decide +kernel) (by decide +kernel))⟩
theorem fp_X8_140 : Fp RX8 140 8 11 .int := ⟨RX8, TX8, 34, tyX8, rfl, by decide, wsX8_in, (tb_in 917 (by decide +kernel) (by decide +kernel)), tyX8_ok, nmX8, rfl, (by decide +kernel)⟩
theorem fg_X8_150 : Fg RX8 150 8 19 := ⟨RX8, TX8, 34, rfl, by decide, wsX8_in, (tb_in 925 (by decide +kernel) (by decide +kernel))⟩
theorem fp_X8_150 : Fp RX8 150 8 19 .int := ⟨RX8, TX8, 34, tyX8, rfl, by decide, wsX8_in, (tb_in 925 (by decide +kernel) (by decide +kernel)), tyX8_ok, nmX8, rfl, (by decide +kernel)⟩
theorem fg_X8_153 : Fg RX8 153 8 20 := ⟨RX8, TX8, 34, rfl, by decide, wsX8_in, (tb_in 926 (by decide +kernel) (by decide +kernel))⟩
theorem fp_X8_153 : Fp RX8 153 8 20 .boolean := ⟨RX8, TX8, 34, tyX8, rfl, by decide, wsX8_in, (tb_in 926 (by decide +kernel) (by decide +kernel)), tyX8_ok, nmX8, rfl, (by decide +kernel)⟩
theorem fg_X8_163 : Fg RX8 163 8 25 := ⟨RX8, TX8, 34, rfl, by decide, wsX8_in, (tb_in 931 (by decide +kernel) (by decide +kernel))⟩
theorem fp_X8_163 : Fp RX8 163 8 25 .int := ⟨RX8, TX8, 34, tyX8, rfl, by decide, wsX8_in, (tb_in 931 (by decide +kernel) (by decide +kernel)), tyX8_ok, nmX8, rfl, (by decide +kernel)⟩
theorem fg_X8_201 : Fg RX8 201 8 30 := ⟨RX8, TX8, 34, rfl, by decide, wsX8_in, (tb_in 936 (by decide +kernel) (by decide +kernel))⟩
theorem fp_X8_201 : Fp RX8 201 8 30 .boolean := ⟨RX8, TX8, 34, tyX8, rfl, by decide, wsX8_in, (tb_in 936 (by decide +kernel) (by decide +kernel)), tyX8_ok, nmX8, rfl, (by decide +kernel)⟩
theorem fg_X8_225 : Fg RX8 225 8 18 := ⟨RX8, TX8, 34, rfl, by decide, wsX8_in, (tb_in 924 (by decide +kernel) (by decide +kernel))⟩
theorem fp_X8_225 : Fp RX8 225 8 18 .int := ⟨RX8, TX8, 34, tyX8, rfl, by decide, wsX8_in, (tb_in 924 (by decide +kernel) (by decide +kernel)), tyX8_ok, nmX8, rfl, (by decide +kernel)⟩
theorem fg_X8_237 : Fg RX8 237 8 16 := ⟨RX8, TX8, 34, rfl, by decide, wsX8_in, (tb_in 922 (by decide +kernel) (by decide +kernel))⟩
theorem fp_X8_237 : Fp RX8 237 8 16 .int := ⟨RX8, TX8, 34, tyX8, rfl, by decide, wsX8_in, (tb_in 922 (by decide +kernel) (by decide +kernel)), tyX8_ok, nmX8, rfl, (by decide +kernel)⟩
theorem fg_X8_254 : Fg RX8 254 8 33 := ⟨RX8, TX8, 34, rfl, by decide, wsX8_in, (tb_in 939 (by decide +kernel) (by decide +kernel))⟩
theorem fp_X8_254 : Fp RX8 254 8 33 .long := ⟨RX8, TX8, 34, tyX8, rfl, by decide, wsX8_in, (tb_in 939 (by decide +kernel) (by decide +kernel)), tyX8_ok, nmX8, rfl, (by decide +kernel)⟩
theorem cb_J_abs : Cb yJ_abs cJ_abs 1 (Option.some FieldType.int) 1 := ⟨(tb_in 72 (by decide +kernel) (by decide +kernel)), (tb_in 858 (by decide +kernel) (by decide +kernel)), (by decide +kernel), (by decide +kernel), (by decide +kernel)⟩
theorem cb_J_bitCount : Cb yJ_bitCount cJ_bitCount 1 (Option.some FieldType.int) 1 := ⟨(tb_in 74 (by decide +kernel) (by decide +kernel)), (tb_in 766 (by decide +kernel) (by decide +kernel)), (by decide +kernel), (by decide +kernel), (by decide +kernel)⟩
theorem cb_J_max : Cb yJ_max cJ_max 2 (Option.some FieldType.int) 2 := ⟨(tb_in 72 (by decide +kernel) (by decide +kernel)), (tb_in 368 (by decide +kernel) (by decide +kernel)), (by decide +kernel), (by decide +kernel), (by decide +kernel)⟩
theorem cb_J_min : Cb yJ_min cJ_min 2 (Option.some FieldType.int) 2 := ⟨(tb_in 72 (by decide +kernel) (by decide +kernel)), (tb_in 375 (by decide +kernel) (by decide +kernel)), (by decide +kernel), (by decide +kernel), (by decide +kernel)⟩
theorem cb_X0_allows : Cb yX0_allows cX0_allows 5 (Option.some FieldType.boolean) 4 := ⟨(tb_in 70 (by decide +kernel) (by decide +kernel)), (tb_in 727 (by decide +kernel) (by decide +kernel)), (by decide +kernel), (by decide +kernel), (by decide +kernel)⟩
theorem cb_X0_clear : Cb yX0_clear cX0_clear 5 (Option.none : Option FieldType) 1 := ⟨(tb_in 70 (by decide +kernel) (by decide +kernel)), (tb_in 638 (by decide +kernel) (by decide +kernel)), (by decide +kernel), (by decide +kernel), (by decide +kernel)⟩
theorem cb_X0_copy : Cb yX0_copy cX0_copy 2 (Option.none : Option FieldType) 1 := ⟨(tb_in 70 (by decide +kernel) (by decide +kernel)), (tb_in 680 (by decide +kernel) (by decide +kernel)), (by decide +kernel), (by decide +kernel), (by decide +kernel)⟩
theorem cb_X0_hold : Cb yX0_hold cX0_hold 10 (Option.some FieldType.boolean) 3 := ⟨(tb_in 70 (by decide +kernel) (by decide +kernel)), (tb_in 657 (by decide +kernel) (by decide +kernel)), (by decide +kernel), (by decide +kernel), (by decide +kernel)⟩
theorem cb_X0_keep : Cb yX0_keep cX0_keep 5 (Option.some FieldType.boolean) 4 := ⟨(tb_in 70 (by decide +kernel) (by decide +kernel)), (tb_in 653 (by decide +kernel) (by decide +kernel)), (by decide +kernel), (by decide +kernel), (by decide +kernel)⟩
theorem cb_X0_most : Cb yX0_most cX0_most 3 (Option.some FieldType.int) 2 := ⟨(tb_in 70 (by decide +kernel) (by decide +kernel)), (tb_in 731 (by decide +kernel) (by decide +kernel)), (by decide +kernel), (by decide +kernel), (by decide +kernel)⟩
theorem cb_X1_beginning : Cb yX1_beginning cX1_beginning 3 (Option.some FieldType.int) 2 := ⟨(tb_in 69 (by decide +kernel) (by decide +kernel)), (tb_in 719 (by decide +kernel) (by decide +kernel)), (by decide +kernel), (by decide +kernel), (by decide +kernel)⟩
theorem cb_X1_end : Cb yX1_end cX1_end 3 (Option.some FieldType.int) 2 := ⟨(tb_in 69 (by decide +kernel) (by decide +kernel)), (tb_in 747 (by decide +kernel) (by decide +kernel)), (by decide +kernel), (by decide +kernel), (by decide +kernel)⟩
theorem cb_X1_find : Cb yX1_find cX1_find 5 (Option.some FieldType.boolean) 3 := ⟨(tb_in 69 (by decide +kernel) (by decide +kernel)), (tb_in 672 (by decide +kernel) (by decide +kernel)), (by decide +kernel), (by decide +kernel), (by decide +kernel)⟩
theorem cb_X1_firstUnlikeKept : Cb yX1_firstUnlikeKept cX1_firstUnlikeKept 2 (Option.some FieldType.int) 0 := ⟨(tb_in 69 (by decide +kernel) (by decide +kernel)), (tb_in 811 (by decide +kernel) (by decide +kernel)), (by decide +kernel), (by decide +kernel), (by decide +kernel)⟩
theorem cb_X1_keepSpans : Cb yX1_keepSpans cX1_keepSpans 2 (Option.none : Option FieldType) 0 := ⟨(tb_in 69 (by decide +kernel) (by decide +kernel)), (tb_in 807 (by decide +kernel) (by decide +kernel)), (by decide +kernel), (by decide +kernel), (by decide +kernel)⟩
theorem cb_X1_layBehind : Cb yX1_layBehind cX1_layBehind 6 (Option.none : Option FieldType) 3 := ⟨(tb_in 69 (by decide +kernel) (by decide +kernel)), (tb_in 646 (by decide +kernel) (by decide +kernel)), (by decide +kernel), (by decide +kernel), (by decide +kernel)⟩
theorem cb_X1_layLists : Cb yX1_layLists cX1_layLists 5 (Option.none : Option FieldType) 2 := ⟨(tb_in 69 (by decide +kernel) (by decide +kernel)), (tb_in 633 (by decide +kernel) (by decide +kernel)), (by decide +kernel), (by decide +kernel), (by decide +kernel)⟩
theorem cb_X1_layPair : Cb yX1_layPair cX1_layPair 5 (Option.some FieldType.boolean) 2 := ⟨(tb_in 69 (by decide +kernel) (by decide +kernel)), (tb_in 693 (by decide +kernel) (by decide +kernel)), (by decide +kernel), (by decide +kernel), (by decide +kernel)⟩
theorem cb_X1_layTie : Cb yX1_layTie cX1_layTie 3 (Option.some FieldType.boolean) 1 := ⟨(tb_in 69 (by decide +kernel) (by decide +kernel)), (tb_in 688 (by decide +kernel) (by decide +kernel)), (by decide +kernel), (by decide +kernel), (by decide +kernel)⟩
theorem cb_X1_layTies : Cb yX1_layTies cX1_layTies 3 (Option.some FieldType.boolean) 1 := ⟨(tb_in 69 (by decide +kernel) (by decide +kernel)), (tb_in 676 (by decide +kernel) (by decide +kernel)), (by decide +kernel), (by decide +kernel), (by decide +kernel)⟩
theorem cb_X1_openness : Cb yX1_openness cX1_openness 3 (Option.some FieldType.int) 0 := ⟨(tb_in 69 (by decide +kernel) (by decide +kernel)), (tb_in 798 (by decide +kernel) (by decide +kernel)), (by decide +kernel), (by decide +kernel), (by decide +kernel)⟩
theorem cb_X1_pointOf : Cb yX1_pointOf cX1_pointOf 2 (Option.some FieldType.int) 1 := ⟨(tb_in 69 (by decide +kernel) (by decide +kernel)), (tb_in 723 (by decide +kernel) (by decide +kernel)), (by decide +kernel), (by decide +kernel), (by decide +kernel)⟩
theorem cb_X1_takeForks : Cb yX1_takeForks cX1_takeForks 6 (Option.some FieldType.boolean) 1 := ⟨(tb_in 69 (by decide +kernel) (by decide +kernel)), (tb_in 706 (by decide +kernel) (by decide +kernel)), (by decide +kernel), (by decide +kernel), (by decide +kernel)⟩
theorem cb_X1_tryYears : Cb yX1_tryYears cX1_tryYears 6 (Option.none : Option FieldType) 1 := ⟨(tb_in 69 (by decide +kernel) (by decide +kernel)), (tb_in 711 (by decide +kernel) (by decide +kernel)), (by decide +kernel), (by decide +kernel), (by decide +kernel)⟩
theorem cb_X1_widen : Cb yX1_widen cX1_widen 9 (Option.none : Option FieldType) 2 := ⟨(tb_in 69 (by decide +kernel) (by decide +kernel)), (tb_in 736 (by decide +kernel) (by decide +kernel)), (by decide +kernel), (by decide +kernel), (by decide +kernel)⟩
theorem cb_X1_yearsOf : Cb yX1_yearsOf cX1_yearsOf 2 (Option.some FieldType.int) 1 := ⟨(tb_in 69 (by decide +kernel) (by decide +kernel)), (tb_in 715 (by decide +kernel) (by decide +kernel)), (by decide +kernel), (by decide +kernel), (by decide +kernel)⟩
theorem cb_X2_after : Cb yX2_after cX2_after 2 (Option.some FieldType.int) 1 := ⟨(tb_in 68 (by decide +kernel) (by decide +kernel)), (tb_in 512 (by decide +kernel) (by decide +kernel)), (by decide +kernel), (by decide +kernel), (by decide +kernel)⟩
theorem cb_X2_afterFactorBegins : Cb yX2_afterFactorBegins cX2_afterFactorBegins 1 (Option.some FieldType.int) 1 := ⟨(tb_in 68 (by decide +kernel) (by decide +kernel)), (tb_in 515 (by decide +kernel) (by decide +kernel)), (by decide +kernel), (by decide +kernel), (by decide +kernel)⟩
theorem cb_X2_afterFactorEnds : Cb yX2_afterFactorEnds cX2_afterFactorEnds 2 (Option.some FieldType.int) 1 := ⟨(tb_in 68 (by decide +kernel) (by decide +kernel)), (tb_in 522 (by decide +kernel) (by decide +kernel)), (by decide +kernel), (by decide +kernel), (by decide +kernel)⟩
theorem cb_X2_byteOf : Cb yX2_byteOf cX2_byteOf 3 (Option.some FieldType.int) 2 := ⟨(tb_in 68 (by decide +kernel) (by decide +kernel)), (tb_in 477 (by decide +kernel) (by decide +kernel)), (by decide +kernel), (by decide +kernel), (by decide +kernel)⟩
theorem cb_X2_digestOn : Cb yX2_digestOn cX2_digestOn 6 (Option.some FieldType.long) 1 := ⟨(tb_in 68 (by decide +kernel) (by decide +kernel)), (tb_in 897 (by decide +kernel) (by decide +kernel)), (by decide +kernel), (by decide +kernel), (by decide +kernel)⟩
theorem cb_X2_firstFault : Cb yX2_firstFault cX2_firstFault 3 (Option.some FieldType.int) 0 := ⟨(tb_in 68 (by decide +kernel) (by decide +kernel)), (tb_in 503 (by decide +kernel) (by decide +kernel)), (by decide +kernel), (by decide +kernel), (by decide +kernel)⟩
theorem cb_X2_isDigit : Cb yX2_isDigit cX2_isDigit 1 (Option.some FieldType.boolean) 1 := ⟨(tb_in 68 (by decide +kernel) (by decide +kernel)), (tb_in 518 (by decide +kernel) (by decide +kernel)), (by decide +kernel), (by decide +kernel), (by decide +kernel)⟩
theorem cb_X2_isText : Cb yX2_isText cX2_isText 1 (Option.some FieldType.boolean) 0 := ⟨(tb_in 68 (by decide +kernel) (by decide +kernel)), (tb_in 533 (by decide +kernel) (by decide +kernel)), (by decide +kernel), (by decide +kernel), (by decide +kernel)⟩
theorem cb_X2_letterAt : Cb yX2_letterAt cX2_letterAt 2 (Option.some FieldType.int) 1 := ⟨(tb_in 68 (by decide +kernel) (by decide +kernel)), (tb_in 507 (by decide +kernel) (by decide +kernel)), (by decide +kernel), (by decide +kernel), (by decide +kernel)⟩
theorem cb_X2_lettersIn : Cb yX2_lettersIn cX2_lettersIn 5 (Option.some FieldType.int) 1 := ⟨(tb_in 68 (by decide +kernel) (by decide +kernel)), (tb_in 474 (by decide +kernel) (by decide +kernel)), (by decide +kernel), (by decide +kernel), (by decide +kernel)⟩
theorem cb_X2_size : Cb yX2_size cX2_size 1 (Option.some FieldType.int) 0 := ⟨(tb_in 68 (by decide +kernel) (by decide +kernel)), (tb_in 482 (by decide +kernel) (by decide +kernel)), (by decide +kernel), (by decide +kernel), (by decide +kernel)⟩
theorem cb_X2_wipe : Cb yX2_wipe cX2_wipe 2 (Option.some FieldType.int) 0 := ⟨(tb_in 68 (by decide +kernel) (by decide +kernel)), (tb_in 495 (by decide +kernel) (by decide +kernel)), (by decide +kernel), (by decide +kernel), (by decide +kernel)⟩
theorem cb_X2_write : Cb yX2_write cX2_write 5 (Option.some FieldType.int) 2 := ⟨(tb_in 68 (by decide +kernel) (by decide +kernel)), (tb_in 486 (by decide +kernel) (by decide +kernel)), (by decide +kernel), (by decide +kernel), (by decide +kernel)⟩
theorem cb_X3_add : Cb yX3_add cX3_add 7 (Option.some FieldType.int) 5 := ⟨(tb_in 64 (by decide +kernel) (by decide +kernel)), (tb_in 330 (by decide +kernel) (by decide +kernel)), (by decide +kernel), (by decide +kernel), (by decide +kernel)⟩
theorem cb_X3_counted : Cb yX3_counted cX3_counted 3 (Option.some FieldType.int) 2 := ⟨(tb_in 64 (by decide +kernel) (by decide +kernel)), (tb_in 361 (by decide +kernel) (by decide +kernel)), (by decide +kernel), (by decide +kernel), (by decide +kernel)⟩
theorem cb_X3_digestOn : Cb yX3_digestOn cX3_digestOn 7 (Option.some FieldType.long) 1 := ⟨(tb_in 64 (by decide +kernel) (by decide +kernel)), (tb_in 872 (by decide +kernel) (by decide +kernel)), (by decide +kernel), (by decide +kernel), (by decide +kernel)⟩
theorem cb_X3_fact : Cb yX3_fact cX3_fact 3 (Option.some FieldType.int) 2 := ⟨(tb_in 64 (by decide +kernel) (by decide +kernel)), (tb_in 319 (by decide +kernel) (by decide +kernel)), (by decide +kernel), (by decide +kernel), (by decide +kernel)⟩
theorem cb_X3_has : Cb yX3_has cX3_has 2 (Option.some FieldType.boolean) 1 := ⟨(tb_in 64 (by decide +kernel) (by decide +kernel)), (tb_in 315 (by decide +kernel) (by decide +kernel)), (by decide +kernel), (by decide +kernel), (by decide +kernel)⟩
theorem cb_X3_hasRoomFor : Cb yX3_hasRoomFor cX3_hasRoomFor 2 (Option.some FieldType.boolean) 1 := ⟨(tb_in 64 (by decide +kernel) (by decide +kernel)), (tb_in 323 (by decide +kernel) (by decide +kernel)), (by decide +kernel), (by decide +kernel), (by decide +kernel)⟩
theorem cb_X3_isKnown : Cb yX3_isKnown cX3_isKnown 3 (Option.some FieldType.boolean) 2 := ⟨(tb_in 64 (by decide +kernel) (by decide +kernel)), (tb_in 311 (by decide +kernel) (by decide +kernel)), (by decide +kernel), (by decide +kernel), (by decide +kernel)⟩
theorem cb_X3_isMisread : Cb yX3_isMisread cX3_isMisread 2 (Option.some FieldType.boolean) 1 := ⟨(tb_in 64 (by decide +kernel) (by decide +kernel)), (tb_in 379 (by decide +kernel) (by decide +kernel)), (by decide +kernel), (by decide +kernel), (by decide +kernel)⟩
theorem cb_X3_isOf : Cb yX3_isOf cX3_isOf 2 (Option.some FieldType.boolean) 2 := ⟨(tb_in 64 (by decide +kernel) (by decide +kernel)), (tb_in 326 (by decide +kernel) (by decide +kernel)), (by decide +kernel), (by decide +kernel), (by decide +kernel)⟩
theorem cb_X3_isToldBehind : Cb yX3_isToldBehind cX3_isToldBehind 7 (Option.some FieldType.boolean) 3 := ⟨(tb_in 64 (by decide +kernel) (by decide +kernel)), (tb_in 847 (by decide +kernel) (by decide +kernel)), (by decide +kernel), (by decide +kernel), (by decide +kernel)⟩
theorem cb_X3_knownBits : Cb yX3_knownBits cX3_knownBits 4 (Option.some FieldType.int) 1 := ⟨(tb_in 64 (by decide +kernel) (by decide +kernel)), (tb_in 790 (by decide +kernel) (by decide +kernel)), (by decide +kernel), (by decide +kernel), (by decide +kernel)⟩
theorem cb_X3_lastOf : Cb yX3_lastOf cX3_lastOf 2 (Option.some FieldType.int) 1 := ⟨(tb_in 64 (by decide +kernel) (by decide +kernel)), (tb_in 304 (by decide +kernel) (by decide +kernel)), (by decide +kernel), (by decide +kernel), (by decide +kernel)⟩
theorem cb_X3_lengths : Cb yX3_lengths cX3_lengths 4 (Option.some FieldType.int) 2 := ⟨(tb_in 64 (by decide +kernel) (by decide +kernel)), (tb_in 353 (by decide +kernel) (by decide +kernel)), (by decide +kernel), (by decide +kernel), (by decide +kernel)⟩
theorem cb_X3_longest : Cb yX3_longest cX3_longest 3 (Option.some FieldType.int) 2 := ⟨(tb_in 64 (by decide +kernel) (by decide +kernel)), (tb_in 357 (by decide +kernel) (by decide +kernel)), (by decide +kernel), (by decide +kernel), (by decide +kernel)⟩
theorem cb_X3_otherReading : Cb yX3_otherReading cX3_otherReading 4 (Option.some FieldType.int) 2 := ⟨(tb_in 64 (by decide +kernel) (by decide +kernel)), (tb_in 365 (by decide +kernel) (by decide +kernel)), (by decide +kernel), (by decide +kernel), (by decide +kernel)⟩
theorem cb_X3_overlap : Cb yX3_overlap cX3_overlap 2 (Option.some FieldType.int) 1 := ⟨(tb_in 64 (by decide +kernel) (by decide +kernel)), (tb_in 389 (by decide +kernel) (by decide +kernel)), (by decide +kernel), (by decide +kernel), (by decide +kernel)⟩
theorem cb_X3_renumber : Cb yX3_renumber cX3_renumber 4 (Option.some FieldType.int) 2 := ⟨(tb_in 64 (by decide +kernel) (by decide +kernel)), (tb_in 393 (by decide +kernel) (by decide +kernel)), (by decide +kernel), (by decide +kernel), (by decide +kernel)⟩
theorem cb_X3_retell : Cb yX3_retell cX3_retell 4 (Option.some FieldType.int) 2 := ⟨(tb_in 64 (by decide +kernel) (by decide +kernel)), (tb_in 835 (by decide +kernel) (by decide +kernel)), (by decide +kernel), (by decide +kernel), (by decide +kernel)⟩
theorem cb_X3_shortest : Cb yX3_shortest cX3_shortest 3 (Option.some FieldType.int) 2 := ⟨(tb_in 64 (by decide +kernel) (by decide +kernel)), (tb_in 372 (by decide +kernel) (by decide +kernel)), (by decide +kernel), (by decide +kernel), (by decide +kernel)⟩
theorem cb_X3_size : Cb yX3_size cX3_size 1 (Option.some FieldType.int) 0 := ⟨(tb_in 64 (by decide +kernel) (by decide +kernel)), (tb_in 629 (by decide +kernel) (by decide +kernel)), (by decide +kernel), (by decide +kernel), (by decide +kernel)⟩
theorem cb_X3_spreadInLands : Cb yX3_spreadInLands cX3_spreadInLands 7 (Option.some FieldType.int) 2 := ⟨(tb_in 64 (by decide +kernel) (by decide +kernel)), (tb_in 785 (by decide +kernel) (by decide +kernel)), (by decide +kernel), (by decide +kernel), (by decide +kernel)⟩
theorem cb_X3_toldYear : Cb yX3_toldYear cX3_toldYear 2 (Option.some FieldType.int) 1 := ⟨(tb_in 64 (by decide +kernel) (by decide +kernel)), (tb_in 839 (by decide +kernel) (by decide +kernel)), (by decide +kernel), (by decide +kernel), (by decide +kernel)⟩
theorem cb_X4_isFull : Cb yX4_isFull cX4_isFull 1 (Option.some FieldType.boolean) 0 := ⟨(tb_in 66 (by decide +kernel) (by decide +kernel)), (tb_in 542 (by decide +kernel) (by decide +kernel)), (by decide +kernel), (by decide +kernel), (by decide +kernel)⟩
theorem cb_X4_learn : Cb yX4_learn cX4_learn 3 (Option.some FieldType.int) 1 := ⟨(tb_in 66 (by decide +kernel) (by decide +kernel)), (tb_in 546 (by decide +kernel) (by decide +kernel)), (by decide +kernel), (by decide +kernel), (by decide +kernel)⟩
theorem cb_X4_says : Cb yX4_says cX4_says 7 (Option.some FieldType.int) 3 := ⟨(tb_in 66 (by decide +kernel) (by decide +kernel)), (tb_in 577 (by decide +kernel) (by decide +kernel)), (by decide +kernel), (by decide +kernel), (by decide +kernel)⟩
theorem cb_X4_size : Cb yX4_size cX4_size 1 (Option.some FieldType.int) 0 := ⟨(tb_in 66 (by decide +kernel) (by decide +kernel)), (tb_in 557 (by decide +kernel) (by decide +kernel)), (by decide +kernel), (by decide +kernel), (by decide +kernel)⟩
theorem cb_X4_unlearn : Cb yX4_unlearn cX4_unlearn 1 (Option.some FieldType.int) 0 := ⟨(tb_in 66 (by decide +kernel) (by decide +kernel)), (tb_in 561 (by decide +kernel) (by decide +kernel)), (by decide +kernel), (by decide +kernel), (by decide +kernel)⟩
theorem cb_X5_begin : Cb yX5_begin cX5_begin 1 (Option.none : Option FieldType) 0 := ⟨(tb_in 67 (by decide +kernel) (by decide +kernel)), (tb_in 587 (by decide +kernel) (by decide +kernel)), (by decide +kernel), (by decide +kernel), (by decide +kernel)⟩
theorem cb_X5_compared : Cb yX5_compared cX5_compared 3 (Option.some FieldType.long) 3 := ⟨(tb_in 67 (by decide +kernel) (by decide +kernel)), (tb_in 606 (by decide +kernel) (by decide +kernel)), (by decide +kernel), (by decide +kernel), (by decide +kernel)⟩
theorem cb_X5_end : Cb yX5_end cX5_end 3 (Option.some FieldType.long) 0 := ⟨(tb_in 67 (by decide +kernel) (by decide +kernel)), (tb_in 591 (by decide +kernel) (by decide +kernel)), (by decide +kernel), (by decide +kernel), (by decide +kernel)⟩
theorem cb_X5_meets : Cb yX5_meets cX5_meets 8 (Option.some FieldType.boolean) 3 := ⟨(tb_in 67 (by decide +kernel) (by decide +kernel)), (tb_in 582 (by decide +kernel) (by decide +kernel)), (by decide +kernel), (by decide +kernel), (by decide +kernel)⟩
theorem cb_X5_numberOf : Cb yX5_numberOf cX5_numberOf 3 (Option.some FieldType.int) 2 := ⟨(tb_in 67 (by decide +kernel) (by decide +kernel)), (tb_in 599 (by decide +kernel) (by decide +kernel)), (by decide +kernel), (by decide +kernel), (by decide +kernel)⟩
theorem cb_X5_set : Cb yX5_set cX5_set 5 (Option.none : Option FieldType) 4 := ⟨(tb_in 67 (by decide +kernel) (by decide +kernel)), (tb_in 573 (by decide +kernel) (by decide +kernel)), (by decide +kernel), (by decide +kernel), (by decide +kernel)⟩
theorem cb_X5_take : Cb yX5_take cX5_take 3 (Option.none : Option FieldType) 1 := ⟨(tb_in 67 (by decide +kernel) (by decide +kernel)), (tb_in 595 (by decide +kernel) (by decide +kernel)), (by decide +kernel), (by decide +kernel), (by decide +kernel)⟩
theorem cb_X5_valueOf : Cb yX5_valueOf cX5_valueOf 2 (Option.some FieldType.int) 1 := ⟨(tb_in 67 (by decide +kernel) (by decide +kernel)), (tb_in 603 (by decide +kernel) (by decide +kernel)), (by decide +kernel), (by decide +kernel), (by decide +kernel)⟩
theorem cb_X6_add : Cb yX6_add cX6_add 9 (Option.some FieldType.int) 7 := ⟨(tb_in 65 (by decide +kernel) (by decide +kernel)), (tb_in 412 (by decide +kernel) (by decide +kernel)), (by decide +kernel), (by decide +kernel), (by decide +kernel)⟩
theorem cb_X6_addRing : Cb yX6_addRing cX6_addRing 5 (Option.some FieldType.int) 4 := ⟨(tb_in 65 (by decide +kernel) (by decide +kernel)), (tb_in 437 (by decide +kernel) (by decide +kernel)), (by decide +kernel), (by decide +kernel), (by decide +kernel)⟩
theorem cb_X6_addSky : Cb yX6_addSky cX6_addSky 7 (Option.some FieldType.int) 6 := ⟨(tb_in 65 (by decide +kernel) (by decide +kernel)), (tb_in 428 (by decide +kernel) (by decide +kernel)), (by decide +kernel), (by decide +kernel), (by decide +kernel)⟩
theorem cb_X6_areSkiesFull : Cb yX6_areSkiesFull cX6_areSkiesFull 1 (Option.some FieldType.boolean) 0 := ⟨(tb_in 65 (by decide +kernel) (by decide +kernel)), (tb_in 424 (by decide +kernel) (by decide +kernel)), (by decide +kernel), (by decide +kernel), (by decide +kernel)⟩
theorem cb_X6_beginning : Cb yX6_beginning cX6_beginning 3 (Option.some FieldType.int) 2 := ⟨(tb_in 65 (by decide +kernel) (by decide +kernel)), (tb_in 701 (by decide +kernel) (by decide +kernel)), (by decide +kernel), (by decide +kernel), (by decide +kernel)⟩
theorem cb_X6_digestOn : Cb yX6_digestOn cX6_digestOn 7 (Option.some FieldType.long) 1 := ⟨(tb_in 65 (by decide +kernel) (by decide +kernel)), (tb_in 877 (by decide +kernel) (by decide +kernel)), (by decide +kernel), (by decide +kernel), (by decide +kernel)⟩
theorem cb_X6_digestPairsOn : Cb yX6_digestPairsOn cX6_digestPairsOn 7 (Option.some FieldType.long) 1 := ⟨(tb_in 65 (by decide +kernel) (by decide +kernel)), (tb_in 893 (by decide +kernel) (by decide +kernel)), (by decide +kernel), (by decide +kernel), (by decide +kernel)⟩
theorem cb_X6_drop : Cb yX6_drop cX6_drop 1 (Option.some FieldType.int) 0 := ⟨(tb_in 65 (by decide +kernel) (by decide +kernel)), (tb_in 466 (by decide +kernel) (by decide +kernel)), (by decide +kernel), (by decide +kernel), (by decide +kernel)⟩
theorem cb_X6_fact : Cb yX6_fact cX6_fact 3 (Option.some FieldType.int) 2 := ⟨(tb_in 65 (by decide +kernel) (by decide +kernel)), (tb_in 453 (by decide +kernel) (by decide +kernel)), (by decide +kernel), (by decide +kernel), (by decide +kernel)⟩
theorem cb_X6_has : Cb yX6_has cX6_has 2 (Option.some FieldType.boolean) 1 := ⟨(tb_in 65 (by decide +kernel) (by decide +kernel)), (tb_in 449 (by decide +kernel) (by decide +kernel)), (by decide +kernel), (by decide +kernel), (by decide +kernel)⟩
theorem cb_X6_holdsAsTold : Cb yX6_holdsAsTold cX6_holdsAsTold 5 (Option.some FieldType.boolean) 2 := ⟨(tb_in 65 (by decide +kernel) (by decide +kernel)), (tb_in 853 (by decide +kernel) (by decide +kernel)), (by decide +kernel), (by decide +kernel), (by decide +kernel)⟩
theorem cb_X6_isFull : Cb yX6_isFull cX6_isFull 1 (Option.some FieldType.boolean) 0 := ⟨(tb_in 65 (by decide +kernel) (by decide +kernel)), (tb_in 408 (by decide +kernel) (by decide +kernel)), (by decide +kernel), (by decide +kernel), (by decide +kernel)⟩
theorem cb_X6_isKnown : Cb yX6_isKnown cX6_isKnown 5 (Option.some FieldType.boolean) 3 := ⟨(tb_in 65 (by decide +kernel) (by decide +kernel)), (tb_in 667 (by decide +kernel) (by decide +kernel)), (by decide +kernel), (by decide +kernel), (by decide +kernel)⟩
theorem cb_X6_shift : Cb yX6_shift cX6_shift 2 (Option.some FieldType.int) 1 := ⟨(tb_in 65 (by decide +kernel) (by decide +kernel)), (tb_in 697 (by decide +kernel) (by decide +kernel)), (by decide +kernel), (by decide +kernel), (by decide +kernel)⟩
theorem cb_X6_size : Cb yX6_size cX6_size 1 (Option.some FieldType.int) 0 := ⟨(tb_in 65 (by decide +kernel) (by decide +kernel)), (tb_in 462 (by decide +kernel) (by decide +kernel)), (by decide +kernel), (by decide +kernel), (by decide +kernel)⟩
theorem cb_X6_spread : Cb yX6_spread cX6_spread 7 (Option.some FieldType.int) 2 := ⟨(tb_in 65 (by decide +kernel) (by decide +kernel)), (tb_in 781 (by decide +kernel) (by decide +kernel)), (by decide +kernel), (by decide +kernel), (by decide +kernel)⟩
theorem cb_X6_year : Cb yX6_year cX6_year 3 (Option.some FieldType.int) 2 := ⟨(tb_in 65 (by decide +kernel) (by decide +kernel)), (tb_in 882 (by decide +kernel) (by decide +kernel)), (by decide +kernel), (by decide +kernel), (by decide +kernel)⟩
theorem cb_X7_about : Cb yX7_about cX7_about 3 (Option.some FieldType.int) 2 := ⟨(tb_in 63 (by decide +kernel) (by decide +kernel)), (tb_in 338 (by decide +kernel) (by decide +kernel)), (by decide +kernel), (by decide +kernel), (by decide +kernel)⟩
theorem cb_X7_afloat : Cb yX7_afloat cX7_afloat 6 (Option.some FieldType.int) 2 := ⟨(tb_in 63 (by decide +kernel) (by decide +kernel)), (tb_in 777 (by decide +kernel) (by decide +kernel)), (by decide +kernel), (by decide +kernel), (by decide +kernel)⟩
theorem cb_X7_arePair : Cb yX7_arePair cX7_arePair 3 (Option.some FieldType.boolean) 2 := ⟨(tb_in 63 (by decide +kernel) (by decide +kernel)), (tb_in 401 (by decide +kernel) (by decide +kernel)), (by decide +kernel), (by decide +kernel), (by decide +kernel)⟩
theorem cb_X7_arePlaces : Cb yX7_arePlaces cX7_arePlaces 2 (Option.some FieldType.boolean) 2 := ⟨(tb_in 63 (by decide +kernel) (by decide +kernel)), (tb_in 404 (by decide +kernel) (by decide +kernel)), (by decide +kernel), (by decide +kernel), (by decide +kernel)⟩
theorem cb_X7_as : Cb yX7_as cX7_as 3 (Option.some FieldType.int) 2 := ⟨(tb_in 63 (by decide +kernel) (by decide +kernel)), (tb_in 344 (by decide +kernel) (by decide +kernel)), (by decide +kernel), (by decide +kernel), (by decide +kernel)⟩
theorem cb_X7_at : Cb yX7_at cX7_at 2 (Option.some FieldType.int) 2 := ⟨(tb_in 63 (by decide +kernel) (by decide +kernel)), (tb_in 307 (by decide +kernel) (by decide +kernel)), (by decide +kernel), (by decide +kernel), (by decide +kernel)⟩
theorem cb_X7_beliefFor : Cb yX7_beliefFor cX7_beliefFor 3 (Option.some FieldType.int) 2 := ⟨(tb_in 63 (by decide +kernel) (by decide +kernel)), (tb_in 614 (by decide +kernel) (by decide +kernel)), (by decide +kernel), (by decide +kernel), (by decide +kernel)⟩
theorem cb_X7_believedBy : Cb yX7_believedBy cX7_believedBy 5 (Option.some FieldType.int) 2 := ⟨(tb_in 63 (by decide +kernel) (by decide +kernel)), (tb_in 663 (by decide +kernel) (by decide +kernel)), (by decide +kernel), (by decide +kernel), (by decide +kernel)⟩
theorem cb_X7_believes : Cb yX7_believes cX7_believes 3 (Option.some FieldType.int) 2 := ⟨(tb_in 63 (by decide +kernel) (by decide +kernel)), (tb_in 610 (by decide +kernel) (by decide +kernel)), (by decide +kernel), (by decide +kernel), (by decide +kernel)⟩
theorem cb_X7_best : Cb yX7_best cX7_best 10 (Option.some FieldType.int) 2 := ⟨(tb_in 63 (by decide +kernel) (by decide +kernel)), (tb_in 827 (by decide +kernel) (by decide +kernel)), (by decide +kernel), (by decide +kernel), (by decide +kernel)⟩
theorem cb_X7_blank : Cb yX7_blank cX7_blank 1 (Option.some FieldType.int) 0 := ⟨(tb_in 63 (by decide +kernel) (by decide +kernel)), (tb_in 491 (by decide +kernel) (by decide +kernel)), (by decide +kernel), (by decide +kernel), (by decide +kernel)⟩
theorem cb_X7_can : Cb yX7_can cX7_can 4 (Option.some FieldType.int) 2 := ⟨(tb_in 63 (by decide +kernel) (by decide +kernel)), (tb_in 618 (by decide +kernel) (by decide +kernel)), (by decide +kernel), (by decide +kernel), (by decide +kernel)⟩
theorem cb_X7_closes : Cb yX7_closes cX7_closes 6 (Option.some FieldType.int) 3 := ⟨(tb_in 63 (by decide +kernel) (by decide +kernel)), (tb_in 819 (by decide +kernel) (by decide +kernel)), (by decide +kernel), (by decide +kernel), (by decide +kernel)⟩
theorem cb_X7_count : Cb yX7_count cX7_count 2 (Option.some FieldType.int) 1 := ⟨(tb_in 63 (by decide +kernel) (by decide +kernel)), (tb_in 863 (by decide +kernel) (by decide +kernel)), (by decide +kernel), (by decide +kernel), (by decide +kernel)⟩
theorem cb_X7_countFor : Cb yX7_countFor cX7_countFor 3 (Option.some FieldType.int) 2 := ⟨(tb_in 63 (by decide +kernel) (by decide +kernel)), (tb_in 569 (by decide +kernel) (by decide +kernel)), (by decide +kernel), (by decide +kernel), (by decide +kernel)⟩
theorem cb_X7_counts : Cb yX7_counts cX7_counts 3 (Option.some FieldType.int) 2 := ⟨(tb_in 63 (by decide +kernel) (by decide +kernel)), (tb_in 565 (by decide +kernel) (by decide +kernel)), (by decide +kernel), (by decide +kernel), (by decide +kernel)⟩
theorem cb_X7_digest : Cb yX7_digest cX7_digest 4 (Option.some FieldType.long) 0 := ⟨(tb_in 63 (by decide +kernel) (by decide +kernel)), (tb_in 867 (by decide +kernel) (by decide +kernel)), (by decide +kernel), (by decide +kernel), (by decide +kernel)⟩
theorem cb_X7_doubt : Cb yX7_doubt cX7_doubt 5 (Option.some FieldType.int) 3 := ⟨(tb_in 63 (by decide +kernel) (by decide +kernel)), (tb_in 759 (by decide +kernel) (by decide +kernel)), (by decide +kernel), (by decide +kernel), (by decide +kernel)⟩
theorem cb_X7_doubted : Cb yX7_doubted cX7_doubted 8 (Option.some FieldType.int) 2 := ⟨(tb_in 63 (by decide +kernel) (by decide +kernel)), (tb_in 763 (by decide +kernel) (by decide +kernel)), (by decide +kernel), (by decide +kernel), (by decide +kernel)⟩
theorem cb_X7_fault : Cb yX7_fault cX7_fault 1 (Option.some FieldType.int) 0 := ⟨(tb_in 63 (by decide +kernel) (by decide +kernel)), (tb_in 499 (by decide +kernel) (by decide +kernel)), (by decide +kernel), (by decide +kernel), (by decide +kernel)⟩
theorem cb_X7_floats : Cb yX7_floats cX7_floats 4 (Option.some FieldType.int) 2 := ⟨(tb_in 63 (by decide +kernel) (by decide +kernel)), (tb_in 773 (by decide +kernel) (by decide +kernel)), (by decide +kernel), (by decide +kernel), (by decide +kernel)⟩
theorem cb_X7_gain : Cb yX7_gain cX7_gain 5 (Option.some FieldType.int) 4 := ⟨(tb_in 63 (by decide +kernel) (by decide +kernel)), (tb_in 823 (by decide +kernel) (by decide +kernel)), (by decide +kernel), (by decide +kernel), (by decide +kernel)⟩
theorem cb_X7_held : Cb yX7_held cX7_held 6 (Option.some FieldType.int) 4 := ⟨(tb_in 63 (by decide +kernel) (by decide +kernel)), (tb_in 751 (by decide +kernel) (by decide +kernel)), (by decide +kernel), (by decide +kernel), (by decide +kernel)⟩
theorem cb_X7_holders : Cb yX7_holders cX7_holders 8 (Option.some FieldType.int) 3 := ⟨(tb_in 63 (by decide +kernel) (by decide +kernel)), (tb_in 755 (by decide +kernel) (by decide +kernel)), (by decide +kernel), (by decide +kernel), (by decide +kernel)⟩
theorem cb_X7_isSchool : Cb yX7_isSchool cX7_isSchool 1 (Option.some FieldType.boolean) 1 := ⟨(tb_in 63 (by decide +kernel) (by decide +kernel)), (tb_in 529 (by decide +kernel) (by decide +kernel)), (by decide +kernel), (by decide +kernel), (by decide +kernel)⟩
theorem cb_X7_isYear : Cb yX7_isYear cX7_isYear 1 (Option.some FieldType.boolean) 1 := ⟨(tb_in 63 (by decide +kernel) (by decide +kernel)), (tb_in 420 (by decide +kernel) (by decide +kernel)), (by decide +kernel), (by decide +kernel), (by decide +kernel)⟩
theorem cb_X7_judge : Cb yX7_judge cX7_judge 4 (Option.some FieldType.int) 1 := ⟨(tb_in 63 (by decide +kernel) (by decide +kernel)), (tb_in 843 (by decide +kernel) (by decide +kernel)), (by decide +kernel), (by decide +kernel), (by decide +kernel)⟩
theorem cb_X7_lasts : Cb yX7_lasts cX7_lasts 4 (Option.some FieldType.int) 3 := ⟨(tb_in 63 (by decide +kernel) (by decide +kernel)), (tb_in 349 (by decide +kernel) (by decide +kernel)), (by decide +kernel), (by decide +kernel), (by decide +kernel)⟩
theorem cb_X7_lay : Cb yX7_lay cX7_lay 5 (Option.some FieldType.int) 2 := ⟨(tb_in 63 (by decide +kernel) (by decide +kernel)), (tb_in 625 (by decide +kernel) (by decide +kernel)), (by decide +kernel), (by decide +kernel), (by decide +kernel)⟩
theorem cb_X7_letter : Cb yX7_letter cX7_letter 6 (Option.some FieldType.int) 5 := ⟨(tb_in 63 (by decide +kernel) (by decide +kernel)), (tb_in 441 (by decide +kernel) (by decide +kernel)), (by decide +kernel), (by decide +kernel), (by decide +kernel)⟩
theorem cb_X7_letters : Cb yX7_letters cX7_letters 4 (Option.some FieldType.int) 1 := ⟨(tb_in 63 (by decide +kernel) (by decide +kernel)), (tb_in 471 (by decide +kernel) (by decide +kernel)), (by decide +kernel), (by decide +kernel), (by decide +kernel)⟩
theorem cb_X7_number : Cb yX7_number cX7_number 3 (Option.some FieldType.int) 2 := ⟨(tb_in 63 (by decide +kernel) (by decide +kernel)), (tb_in 385 (by decide +kernel) (by decide +kernel)), (by decide +kernel), (by decide +kernel), (by decide +kernel)⟩
theorem cb_X7_open : Cb yX7_open cX7_open 4 (Option.some FieldType.int) 2 := ⟨(tb_in 63 (by decide +kernel) (by decide +kernel)), (tb_in 794 (by decide +kernel) (by decide +kernel)), (by decide +kernel), (by decide +kernel), (by decide +kernel)⟩
theorem cb_X7_part : Cb yX7_part cX7_part 1 (Option.some FieldType.int) 0 := ⟨(tb_in 63 (by decide +kernel) (by decide +kernel)), (tb_in 803 (by decide +kernel) (by decide +kernel)), (by decide +kernel), (by decide +kernel), (by decide +kernel)⟩
theorem cb_X7_put : Cb yX7_put cX7_put 3 (Option.none : Option FieldType) 3 := ⟨(tb_in 63 (by decide +kernel) (by decide +kernel)), (tb_in 333 (by decide +kernel) (by decide +kernel)), (by decide +kernel), (by decide +kernel), (by decide +kernel)⟩
theorem cb_X7_refusal : Cb yX7_refusal cX7_refusal 2 (Option.some FieldType.int) 2 := ⟨(tb_in 63 (by decide +kernel) (by decide +kernel)), (tb_in 621 (by decide +kernel) (by decide +kernel)), (by decide +kernel), (by decide +kernel), (by decide +kernel)⟩
theorem cb_X7_reign : Cb yX7_reign cX7_reign 7 (Option.some FieldType.int) 5 := ⟨(tb_in 63 (by decide +kernel) (by decide +kernel)), (tb_in 299 (by decide +kernel) (by decide +kernel)), (by decide +kernel), (by decide +kernel), (by decide +kernel)⟩
theorem cb_X7_ring : Cb yX7_ring cX7_ring 5 (Option.some FieldType.int) 4 := ⟨(tb_in 63 (by decide +kernel) (by decide +kernel)), (tb_in 433 (by decide +kernel) (by decide +kernel)), (by decide +kernel), (by decide +kernel), (by decide +kernel)⟩
theorem cb_X7_sayingsDigest : Cb yX7_sayingsDigest cX7_sayingsDigest 7 (Option.some FieldType.long) 2 := ⟨(tb_in 63 (by decide +kernel) (by decide +kernel)), (tb_in 886 (by decide +kernel) (by decide +kernel)), (by decide +kernel), (by decide +kernel), (by decide +kernel)⟩
theorem cb_X7_schoolOf : Cb yX7_schoolOf cX7_schoolOf 2 (Option.some (FieldType.object "ReignLadders$School")) 1 := ⟨(tb_in 63 (by decide +kernel) (by decide +kernel)), (tb_in 538 (by decide +kernel) (by decide +kernel)), (by decide +kernel), (by decide +kernel), (by decide +kernel)⟩
theorem cb_X7_sky : Cb yX7_sky cX7_sky 7 (Option.some FieldType.int) 6 := ⟨(tb_in 63 (by decide +kernel) (by decide +kernel)), (tb_in 417 (by decide +kernel) (by decide +kernel)), (by decide +kernel), (by decide +kernel), (by decide +kernel)⟩
theorem cb_X7_span : Cb yX7_span cX7_span 6 (Option.some FieldType.int) 4 := ⟨(tb_in 63 (by decide +kernel) (by decide +kernel)), (tb_in 743 (by decide +kernel) (by decide +kernel)), (by decide +kernel), (by decide +kernel), (by decide +kernel)⟩
theorem cb_X7_strike : Cb yX7_strike cX7_strike 2 (Option.some FieldType.int) 1 := ⟨(tb_in 63 (by decide +kernel) (by decide +kernel)), (tb_in 553 (by decide +kernel) (by decide +kernel)), (by decide +kernel), (by decide +kernel), (by decide +kernel)⟩
theorem cb_X7_tell : Cb yX7_tell cX7_tell 3 (Option.some FieldType.int) 2 := ⟨(tb_in 63 (by decide +kernel) (by decide +kernel)), (tb_in 831 (by decide +kernel) (by decide +kernel)), (by decide +kernel), (by decide +kernel), (by decide +kernel)⟩
theorem cb_X7_text : Cb yX7_text cX7_text 3 (Option.some FieldType.int) 1 := ⟨(tb_in 63 (by decide +kernel) (by decide +kernel)), (tb_in 526 (by decide +kernel) (by decide +kernel)), (by decide +kernel), (by decide +kernel), (by decide +kernel)⟩
theorem cb_X7_tie : Cb yX7_tie cX7_tie 7 (Option.some FieldType.int) 6 := ⟨(tb_in 63 (by decide +kernel) (by decide +kernel)), (tb_in 397 (by decide +kernel) (by decide +kernel)), (by decide +kernel), (by decide +kernel), (by decide +kernel)⟩
theorem cb_X7_tied : Cb yX7_tied cX7_tied 3 (Option.some FieldType.int) 2 := ⟨(tb_in 63 (by decide +kernel) (by decide +kernel)), (tb_in 445 (by decide +kernel) (by decide +kernel)), (by decide +kernel), (by decide +kernel), (by decide +kernel)⟩
theorem cb_X7_undo : Cb yX7_undo cX7_undo 1 (Option.some FieldType.int) 0 := ⟨(tb_in 63 (by decide +kernel) (by decide +kernel)), (tb_in 458 (by decide +kernel) (by decide +kernel)), (by decide +kernel), (by decide +kernel), (by decide +kernel)⟩
theorem cb_X7_wish : Cb yX7_wish cX7_wish 6 (Option.some FieldType.int) 5 := ⟨(tb_in 63 (by decide +kernel) (by decide +kernel)), (tb_in 815 (by decide +kernel) (by decide +kernel)), (by decide +kernel), (by decide +kernel), (by decide +kernel)⟩
theorem cb_X7_within : Cb yX7_within cX7_within 3 (Option.some FieldType.boolean) 3 := ⟨(tb_in 63 (by decide +kernel) (by decide +kernel)), (tb_in 114 (by decide +kernel) (by decide +kernel)), (by decide +kernel), (by decide +kernel), (by decide +kernel)⟩
theorem cb_X8_about : Cb yX8_about cX8_about 3 (Option.some FieldType.int) 2 := ⟨(tb_in 71 (by decide +kernel) (by decide +kernel)), (tb_in 1031 (by decide +kernel) (by decide +kernel)), (by decide +kernel), (by decide +kernel), (by decide +kernel)⟩
theorem cb_X8_aboutOf : Cb yX8_aboutOf cX8_aboutOf 3 (Option.some FieldType.int) 2 := ⟨(tb_in 71 (by decide +kernel) (by decide +kernel)), (tb_in 1039 (by decide +kernel) (by decide +kernel)), (by decide +kernel), (by decide +kernel), (by decide +kernel)⟩
theorem cb_X8_as : Cb yX8_as cX8_as 3 (Option.some FieldType.int) 2 := ⟨(tb_in 71 (by decide +kernel) (by decide +kernel)), (tb_in 1043 (by decide +kernel) (by decide +kernel)), (by decide +kernel), (by decide +kernel), (by decide +kernel)⟩
theorem cb_X8_believes : Cb yX8_believes cX8_believes 3 (Option.some FieldType.int) 2 := ⟨(tb_in 71 (by decide +kernel) (by decide +kernel)), (tb_in 1171 (by decide +kernel) (by decide +kernel)), (by decide +kernel), (by decide +kernel), (by decide +kernel)⟩
theorem cb_X8_believesOf : Cb yX8_believesOf cX8_believesOf 3 (Option.some FieldType.int) 2 := ⟨(tb_in 71 (by decide +kernel) (by decide +kernel)), (tb_in 1175 (by decide +kernel) (by decide +kernel)), (by decide +kernel), (by decide +kernel), (by decide +kernel)⟩
theorem cb_X8_best : Cb yX8_best cX8_best 7 (Option.some FieldType.int) 2 := ⟨(tb_in 71 (by decide +kernel) (by decide +kernel)), (tb_in 1268 (by decide +kernel) (by decide +kernel)), (by decide +kernel), (by decide +kernel), (by decide +kernel)⟩
theorem cb_X8_bind : Cb yX8_bind cX8_bind 5 (Option.none : Option FieldType) 4 := ⟨(tb_in 71 (by decide +kernel) (by decide +kernel)), (tb_in 1200 (by decide +kernel) (by decide +kernel)), (by decide +kernel), (by decide +kernel), (by decide +kernel)⟩
theorem cb_X8_blank : Cb yX8_blank cX8_blank 2 (Option.some FieldType.int) 0 := ⟨(tb_in 71 (by decide +kernel) (by decide +kernel)), (tb_in 1114 (by decide +kernel) (by decide +kernel)), (by decide +kernel), (by decide +kernel), (by decide +kernel)⟩
theorem cb_X8_can : Cb yX8_can cX8_can 3 (Option.some FieldType.int) 2 := ⟨(tb_in 71 (by decide +kernel) (by decide +kernel)), (tb_in 1179 (by decide +kernel) (by decide +kernel)), (by decide +kernel), (by decide +kernel), (by decide +kernel)⟩
theorem cb_X8_closeWays : Cb yX8_closeWays cX8_closeWays 5 (Option.some FieldType.boolean) 0 := ⟨(tb_in 71 (by decide +kernel) (by decide +kernel)), (tb_in 1213 (by decide +kernel) (by decide +kernel)), (by decide +kernel), (by decide +kernel), (by decide +kernel)⟩
theorem cb_X8_closes : Cb yX8_closes cX8_closes 4 (Option.some FieldType.int) 3 := ⟨(tb_in 71 (by decide +kernel) (by decide +kernel)), (tb_in 1260 (by decide +kernel) (by decide +kernel)), (by decide +kernel), (by decide +kernel), (by decide +kernel)⟩
theorem cb_X8_closesOf : Cb yX8_closesOf cX8_closesOf 6 (Option.some FieldType.int) 3 := ⟨(tb_in 71 (by decide +kernel) (by decide +kernel)), (tb_in 1264 (by decide +kernel) (by decide +kernel)), (by decide +kernel), (by decide +kernel), (by decide +kernel)⟩
theorem cb_X8_come : Cb yX8_come cX8_come 8 (Option.some FieldType.int) 7 := ⟨(tb_in 71 (by decide +kernel) (by decide +kernel)), (tb_in 1078 (by decide +kernel) (by decide +kernel)), (by decide +kernel), (by decide +kernel), (by decide +kernel)⟩
theorem cb_X8_count : Cb yX8_count cX8_count 2 (Option.some FieldType.int) 1 := ⟨(tb_in 71 (by decide +kernel) (by decide +kernel)), (tb_in 1288 (by decide +kernel) (by decide +kernel)), (by decide +kernel), (by decide +kernel), (by decide +kernel)⟩
theorem cb_X8_counts : Cb yX8_counts cX8_counts 3 (Option.some FieldType.int) 2 := ⟨(tb_in 71 (by decide +kernel) (by decide +kernel)), (tb_in 1144 (by decide +kernel) (by decide +kernel)), (by decide +kernel), (by decide +kernel), (by decide +kernel)⟩
theorem cb_X8_countsOf : Cb yX8_countsOf cX8_countsOf 3 (Option.some FieldType.int) 2 := ⟨(tb_in 71 (by decide +kernel) (by decide +kernel)), (tb_in 1148 (by decide +kernel) (by decide +kernel)), (by decide +kernel), (by decide +kernel), (by decide +kernel)⟩
theorem cb_X8_digest : Cb yX8_digest cX8_digest 3 (Option.some FieldType.long) 0 := ⟨(tb_in 71 (by decide +kernel) (by decide +kernel)), (tb_in 1296 (by decide +kernel) (by decide +kernel)), (by decide +kernel), (by decide +kernel), (by decide +kernel)⟩
theorem cb_X8_doubt : Cb yX8_doubt cX8_doubt 10 (Option.some FieldType.int) 3 := ⟨(tb_in 71 (by decide +kernel) (by decide +kernel)), (tb_in 1229 (by decide +kernel) (by decide +kernel)), (by decide +kernel), (by decide +kernel), (by decide +kernel)⟩
theorem cb_X8_factor : Cb yX8_factor cX8_factor 2 (Option.none : Option FieldType) 1 := ⟨(tb_in 71 (by decide +kernel) (by decide +kernel)), (tb_in 1164 (by decide +kernel) (by decide +kernel)), (by decide +kernel), (by decide +kernel), (by decide +kernel)⟩
theorem cb_X8_fault : Cb yX8_fault cX8_fault 1 (Option.some FieldType.int) 0 := ⟨(tb_in 71 (by decide +kernel) (by decide +kernel)), (tb_in 1118 (by decide +kernel) (by decide +kernel)), (by decide +kernel), (by decide +kernel), (by decide +kernel)⟩
theorem cb_X8_floats : Cb yX8_floats cX8_floats 3 (Option.some FieldType.int) 2 := ⟨(tb_in 71 (by decide +kernel) (by decide +kernel)), (tb_in 1236 (by decide +kernel) (by decide +kernel)), (by decide +kernel), (by decide +kernel), (by decide +kernel)⟩
theorem cb_X8_floatsOf : Cb yX8_floatsOf cX8_floatsOf 9 (Option.some FieldType.int) 2 := ⟨(tb_in 71 (by decide +kernel) (by decide +kernel)), (tb_in 1240 (by decide +kernel) (by decide +kernel)), (by decide +kernel), (by decide +kernel), (by decide +kernel)⟩
theorem cb_X8_held : Cb yX8_held cX8_held 9 (Option.some FieldType.int) 4 := ⟨(tb_in 71 (by decide +kernel) (by decide +kernel)), (tb_in 1225 (by decide +kernel) (by decide +kernel)), (by decide +kernel), (by decide +kernel), (by decide +kernel)⟩
theorem cb_X8_holds : Cb yX8_holds cX8_holds 7 (Option.some FieldType.boolean) 1 := ⟨(tb_in 71 (by decide +kernel) (by decide +kernel)), (tb_in 1156 (by decide +kernel) (by decide +kernel)), (by decide +kernel), (by decide +kernel), (by decide +kernel)⟩
theorem cb_X8_holdsTold : Cb yX8_holdsTold cX8_holdsTold 4 (Option.some FieldType.boolean) 1 := ⟨(tb_in 71 (by decide +kernel) (by decide +kernel)), (tb_in 1284 (by decide +kernel) (by decide +kernel)), (by decide +kernel), (by decide +kernel), (by decide +kernel)⟩
theorem cb_X8_howMany : Cb yX8_howMany cX8_howMany 2 (Option.some FieldType.int) 1 := ⟨(tb_in 71 (by decide +kernel) (by decide +kernel)), (tb_in 1292 (by decide +kernel) (by decide +kernel)), (by decide +kernel), (by decide +kernel), (by decide +kernel)⟩
theorem cb_X8_isEdition : Cb yX8_isEdition cX8_isEdition 1 (Option.some FieldType.boolean) 1 := ⟨(tb_in 71 (by decide +kernel) (by decide +kernel)), (tb_in 1020 (by decide +kernel) (by decide +kernel)), (by decide +kernel), (by decide +kernel), (by decide +kernel)⟩
theorem cb_X8_isKnown : Cb yX8_isKnown cX8_isKnown 3 (Option.some FieldType.boolean) 2 := ⟨(tb_in 71 (by decide +kernel) (by decide +kernel)), (tb_in 1187 (by decide +kernel) (by decide +kernel)), (by decide +kernel), (by decide +kernel), (by decide +kernel)⟩
theorem cb_X8_isMisread : Cb yX8_isMisread cX8_isMisread 1 (Option.some FieldType.boolean) 1 := ⟨(tb_in 71 (by decide +kernel) (by decide +kernel)), (tb_in 1027 (by decide +kernel) (by decide +kernel)), (by decide +kernel), (by decide +kernel), (by decide +kernel)⟩
theorem cb_X8_isName : Cb yX8_isName cX8_isName 1 (Option.some FieldType.boolean) 1 := ⟨(tb_in 71 (by decide +kernel) (by decide +kernel)), (tb_in 1129 (by decide +kernel) (by decide +kernel)), (by decide +kernel), (by decide +kernel), (by decide +kernel)⟩
theorem cb_X8_isReign : Cb yX8_isReign cX8_isReign 2 (Option.some FieldType.boolean) 1 := ⟨(tb_in 71 (by decide +kernel) (by decide +kernel)), (tb_in 1035 (by decide +kernel) (by decide +kernel)), (by decide +kernel), (by decide +kernel), (by decide +kernel)⟩
theorem cb_X8_isSchool : Cb yX8_isSchool cX8_isSchool 1 (Option.some FieldType.boolean) 1 := ⟨(tb_in 71 (by decide +kernel) (by decide +kernel)), (tb_in 1136 (by decide +kernel) (by decide +kernel)), (by decide +kernel), (by decide +kernel), (by decide +kernel)⟩
theorem cb_X8_isTie : Cb yX8_isTie cX8_isTie 2 (Option.some FieldType.boolean) 1 := ⟨(tb_in 71 (by decide +kernel) (by decide +kernel)), (tb_in 1101 (by decide +kernel) (by decide +kernel)), (by decide +kernel), (by decide +kernel), (by decide +kernel)⟩
theorem cb_X8_isXth : Cb yX8_isXth cX8_isXth 1 (Option.some FieldType.boolean) 1 := ⟨(tb_in 71 (by decide +kernel) (by decide +kernel)), (tb_in 1074 (by decide +kernel) (by decide +kernel)), (by decide +kernel), (by decide +kernel), (by decide +kernel)⟩
theorem cb_X8_isYear : Cb yX8_isYear cX8_isYear 1 (Option.some FieldType.boolean) 1 := ⟨(tb_in 71 (by decide +kernel) (by decide +kernel)), (tb_in 1085 (by decide +kernel) (by decide +kernel)), (by decide +kernel), (by decide +kernel), (by decide +kernel)⟩
theorem cb_X8_judge : Cb yX8_judge cX8_judge 5 (Option.some FieldType.int) 1 := ⟨(tb_in 71 (by decide +kernel) (by decide +kernel)), (tb_in 1276 (by decide +kernel) (by decide +kernel)), (by decide +kernel), (by decide +kernel), (by decide +kernel)⟩
theorem cb_X8_lastOf : Cb yX8_lastOf cX8_lastOf 4 (Option.some FieldType.int) 1 := ⟨(tb_in 71 (by decide +kernel) (by decide +kernel)), (tb_in 1024 (by decide +kernel) (by decide +kernel)), (by decide +kernel), (by decide +kernel), (by decide +kernel)⟩
theorem cb_X8_lasts : Cb yX8_lasts cX8_lasts 4 (Option.some FieldType.int) 3 := ⟨(tb_in 71 (by decide +kernel) (by decide +kernel)), (tb_in 1047 (by decide +kernel) (by decide +kernel)), (by decide +kernel), (by decide +kernel), (by decide +kernel)⟩
theorem cb_X8_layChoice : Cb yX8_layChoice cX8_layChoice 10 (Option.some FieldType.boolean) 2 := ⟨(tb_in 71 (by decide +kernel) (by decide +kernel)), (tb_in 1195 (by decide +kernel) (by decide +kernel)), (by decide +kernel), (by decide +kernel), (by decide +kernel)⟩
theorem cb_X8_layTie : Cb yX8_layTie cX8_layTie 11 (Option.none : Option FieldType) 2 := ⟨(tb_in 71 (by decide +kernel) (by decide +kernel)), (tb_in 1208 (by decide +kernel) (by decide +kernel)), (by decide +kernel), (by decide +kernel), (by decide +kernel)⟩
theorem cb_X8_leastOf : Cb yX8_leastOf cX8_leastOf 5 (Option.some FieldType.int) 2 := ⟨(tb_in 71 (by decide +kernel) (by decide +kernel)), (tb_in 1051 (by decide +kernel) (by decide +kernel)), (by decide +kernel), (by decide +kernel), (by decide +kernel)⟩
theorem cb_X8_lengthsOf : Cb yX8_lengthsOf cX8_lengthsOf 4 (Option.some FieldType.int) 2 := ⟨(tb_in 71 (by decide +kernel) (by decide +kernel)), (tb_in 1063 (by decide +kernel) (by decide +kernel)), (by decide +kernel), (by decide +kernel), (by decide +kernel)⟩
theorem cb_X8_letter : Cb yX8_letter cX8_letter 6 (Option.some FieldType.int) 5 := ⟨(tb_in 71 (by decide +kernel) (by decide +kernel)), (tb_in 1093 (by decide +kernel) (by decide +kernel)), (by decide +kernel), (by decide +kernel), (by decide +kernel)⟩
theorem cb_X8_letters : Cb yX8_letters cX8_letters 7 (Option.some FieldType.int) 1 := ⟨(tb_in 71 (by decide +kernel) (by decide +kernel)), (tb_in 1109 (by decide +kernel) (by decide +kernel)), (by decide +kernel), (by decide +kernel), (by decide +kernel)⟩
theorem cb_X8_lies : Cb yX8_lies cX8_lies 3 (Option.some FieldType.boolean) 3 := ⟨(tb_in 71 (by decide +kernel) (by decide +kernel)), (tb_in 1017 (by decide +kernel) (by decide +kernel)), (by decide +kernel), (by decide +kernel), (by decide +kernel)⟩
theorem cb_X8_mayLast : Cb yX8_mayLast cX8_mayLast 4 (Option.some FieldType.boolean) 3 := ⟨(tb_in 71 (by decide +kernel) (by decide +kernel)), (tb_in 1280 (by decide +kernel) (by decide +kernel)), (by decide +kernel), (by decide +kernel), (by decide +kernel)⟩
theorem cb_X8_misreadAhead : Cb yX8_misreadAhead cX8_misreadAhead 4 (Option.some FieldType.int) 1 := ⟨(tb_in 71 (by decide +kernel) (by decide +kernel)), (tb_in 1204 (by decide +kernel) (by decide +kernel)), (by decide +kernel), (by decide +kernel), (by decide +kernel)⟩
theorem cb_X8_mix : Cb yX8_mix cX8_mix 3 (Option.none : Option FieldType) 1 := ⟨(tb_in 71 (by decide +kernel) (by decide +kernel)), (tb_in 1301 (by decide +kernel) (by decide +kernel)), (by decide +kernel), (by decide +kernel), (by decide +kernel)⟩
theorem cb_X8_mostOf : Cb yX8_mostOf cX8_mostOf 5 (Option.some FieldType.int) 2 := ⟨(tb_in 71 (by decide +kernel) (by decide +kernel)), (tb_in 1059 (by decide +kernel) (by decide +kernel)), (by decide +kernel), (by decide +kernel), (by decide +kernel)⟩
theorem cb_X8_next : Cb yX8_next cX8_next 5 (Option.some FieldType.int) 3 := ⟨(tb_in 71 (by decide +kernel) (by decide +kernel)), (tb_in 1126 (by decide +kernel) (by decide +kernel)), (by decide +kernel), (by decide +kernel), (by decide +kernel)⟩
theorem cb_X8_number : Cb yX8_number cX8_number 4 (Option.some FieldType.int) 2 := ⟨(tb_in 71 (by decide +kernel) (by decide +kernel)), (tb_in 1067 (by decide +kernel) (by decide +kernel)), (by decide +kernel), (by decide +kernel), (by decide +kernel)⟩
theorem cb_X8_ones : Cb yX8_ones cX8_ones 3 (Option.some FieldType.int) 1 := ⟨(tb_in 71 (by decide +kernel) (by decide +kernel)), (tb_in 1232 (by decide +kernel) (by decide +kernel)), (by decide +kernel), (by decide +kernel), (by decide +kernel)⟩
theorem cb_X8_open : Cb yX8_open cX8_open 3 (Option.some FieldType.int) 2 := ⟨(tb_in 71 (by decide +kernel) (by decide +kernel)), (tb_in 1244 (by decide +kernel) (by decide +kernel)), (by decide +kernel), (by decide +kernel), (by decide +kernel)⟩
theorem cb_X8_openGroup : Cb yX8_openGroup cX8_openGroup 1 (Option.none : Option FieldType) 0 := ⟨(tb_in 71 (by decide +kernel) (by decide +kernel)), (tb_in 1160 (by decide +kernel) (by decide +kernel)), (by decide +kernel), (by decide +kernel), (by decide +kernel)⟩
theorem cb_X8_openNow : Cb yX8_openNow cX8_openNow 4 (Option.some FieldType.int) 1 := ⟨(tb_in 71 (by decide +kernel) (by decide +kernel)), (tb_in 1248 (by decide +kernel) (by decide +kernel)), (by decide +kernel), (by decide +kernel), (by decide +kernel)⟩
theorem cb_X8_otherLength : Cb yX8_otherLength cX8_otherLength 4 (Option.some FieldType.int) 2 := ⟨(tb_in 71 (by decide +kernel) (by decide +kernel)), (tb_in 1055 (by decide +kernel) (by decide +kernel)), (by decide +kernel), (by decide +kernel), (by decide +kernel)⟩
theorem cb_X8_part : Cb yX8_part cX8_part 2 (Option.some FieldType.int) 0 := ⟨(tb_in 71 (by decide +kernel) (by decide +kernel)), (tb_in 1252 (by decide +kernel) (by decide +kernel)), (by decide +kernel), (by decide +kernel), (by decide +kernel)⟩
theorem cb_X8_placeOf : Cb yX8_placeOf cX8_placeOf 1 (Option.some FieldType.int) 1 := ⟨(tb_in 71 (by decide +kernel) (by decide +kernel)), (tb_in 1167 (by decide +kernel) (by decide +kernel)), (by decide +kernel), (by decide +kernel), (by decide +kernel)⟩
theorem cb_X8_readText : Cb yX8_readText cX8_readText 6 (Option.none : Option FieldType) 0 := ⟨(tb_in 71 (by decide +kernel) (by decide +kernel)), (tb_in 1122 (by decide +kernel) (by decide +kernel)), (by decide +kernel), (by decide +kernel), (by decide +kernel)⟩
theorem cb_X8_reign : Cb yX8_reign cX8_reign 9 (Option.some FieldType.int) 5 := ⟨(tb_in 71 (by decide +kernel) (by decide +kernel)), (tb_in 1014 (by decide +kernel) (by decide +kernel)), (by decide +kernel), (by decide +kernel), (by decide +kernel)⟩
theorem cb_X8_ring : Cb yX8_ring cX8_ring 6 (Option.some FieldType.int) 4 := ⟨(tb_in 71 (by decide +kernel) (by decide +kernel)), (tb_in 1089 (by decide +kernel) (by decide +kernel)), (by decide +kernel), (by decide +kernel), (by decide +kernel)⟩
theorem cb_X8_saysOf : Cb yX8_saysOf cX8_saysOf 6 (Option.some FieldType.int) 3 := ⟨(tb_in 71 (by decide +kernel) (by decide +kernel)), (tb_in 1152 (by decide +kernel) (by decide +kernel)), (by decide +kernel), (by decide +kernel), (by decide +kernel)⟩
theorem cb_X8_sky : Cb yX8_sky cX8_sky 9 (Option.some FieldType.int) 6 := ⟨(tb_in 71 (by decide +kernel) (by decide +kernel)), (tb_in 1082 (by decide +kernel) (by decide +kernel)), (by decide +kernel), (by decide +kernel), (by decide +kernel)⟩
theorem cb_X8_solve : Cb yX8_solve cX8_solve 9 (Option.none : Option FieldType) 4 := ⟨(tb_in 71 (by decide +kernel) (by decide +kernel)), (tb_in 1191 (by decide +kernel) (by decide +kernel)), (by decide +kernel), (by decide +kernel), (by decide +kernel)⟩
theorem cb_X8_span : Cb yX8_span cX8_span 5 (Option.some FieldType.int) 4 := ⟨(tb_in 71 (by decide +kernel) (by decide +kernel)), (tb_in 1221 (by decide +kernel) (by decide +kernel)), (by decide +kernel), (by decide +kernel), (by decide +kernel)⟩
theorem cb_X8_strike : Cb yX8_strike cX8_strike 2 (Option.some FieldType.int) 1 := ⟨(tb_in 71 (by decide +kernel) (by decide +kernel)), (tb_in 1140 (by decide +kernel) (by decide +kernel)), (by decide +kernel), (by decide +kernel), (by decide +kernel)⟩
theorem cb_X8_take : Cb yX8_take cX8_take 5 (Option.none : Option FieldType) 1 := ⟨(tb_in 71 (by decide +kernel) (by decide +kernel)), (tb_in 1217 (by decide +kernel) (by decide +kernel)), (by decide +kernel), (by decide +kernel), (by decide +kernel)⟩
theorem cb_X8_tell : Cb yX8_tell cX8_tell 4 (Option.some FieldType.int) 2 := ⟨(tb_in 71 (by decide +kernel) (by decide +kernel)), (tb_in 1272 (by decide +kernel) (by decide +kernel)), (by decide +kernel), (by decide +kernel), (by decide +kernel)⟩
theorem cb_X8_text : Cb yX8_text cX8_text 4 (Option.some FieldType.int) 1 := ⟨(tb_in 71 (by decide +kernel) (by decide +kernel)), (tb_in 1133 (by decide +kernel) (by decide +kernel)), (by decide +kernel), (by decide +kernel), (by decide +kernel)⟩
theorem cb_X8_tie : Cb yX8_tie cX8_tie 7 (Option.some FieldType.int) 6 := ⟨(tb_in 71 (by decide +kernel) (by decide +kernel)), (tb_in 1071 (by decide +kernel) (by decide +kernel)), (by decide +kernel), (by decide +kernel), (by decide +kernel)⟩
theorem cb_X8_tied : Cb yX8_tied cX8_tied 3 (Option.some FieldType.int) 2 := ⟨(tb_in 71 (by decide +kernel) (by decide +kernel)), (tb_in 1097 (by decide +kernel) (by decide +kernel)), (by decide +kernel), (by decide +kernel), (by decide +kernel)⟩
theorem cb_X8_tiesOf : Cb yX8_tiesOf cX8_tiesOf 6 (Option.some FieldType.int) 2 := ⟨(tb_in 71 (by decide +kernel) (by decide +kernel)), (tb_in 1183 (by decide +kernel) (by decide +kernel)), (by decide +kernel), (by decide +kernel), (by decide +kernel)⟩
theorem cb_X8_undo : Cb yX8_undo cX8_undo 1 (Option.some FieldType.int) 0 := ⟨(tb_in 71 (by decide +kernel) (by decide +kernel)), (tb_in 1105 (by decide +kernel) (by decide +kernel)), (by decide +kernel), (by decide +kernel), (by decide +kernel)⟩
theorem cb_X8_wish : Cb yX8_wish cX8_wish 6 (Option.some FieldType.int) 5 := ⟨(tb_in 71 (by decide +kernel) (by decide +kernel)), (tb_in 1256 (by decide +kernel) (by decide +kernel)), (by decide +kernel), (by decide +kernel), (by decide +kernel)⟩
theorem cs_X7_65 : Cs RX7 65 yX7_within cX7_within 3 (Option.some FieldType.boolean) 3 := ⟨cb_X7_within, (tb_in 300 (by decide +kernel) (by decide +kernel)), (tb_in 113 (by decide +kernel) (by decide +kernel))⟩
theorem cv_X7_69 : Cv RX7 69 yX3_lastOf cX3_lastOf 2 (Option.some FieldType.int) 1 := ⟨cb_X3_lastOf, (tb_in 301 (by decide +kernel) (by decide +kernel)), (tb_in 302 (by decide +kernel) (by decide +kernel)), (tb_in 303 (by decide +kernel) (by decide +kernel))⟩
theorem cv_X7_73 : Cv RX7 73 yX3_isKnown cX3_isKnown 3 (Option.some FieldType.boolean) 2 := ⟨cb_X3_isKnown, (tb_in 308 (by decide +kernel) (by decide +kernel)), (tb_in 309 (by decide +kernel) (by decide +kernel)), (tb_in 310 (by decide +kernel) (by decide +kernel))⟩
theorem cv_X7_77 : Cv RX7 77 yX3_hasRoomFor cX3_hasRoomFor 2 (Option.some FieldType.boolean) 1 := ⟨cb_X3_hasRoomFor, (tb_in 320 (by decide +kernel) (by decide +kernel)), (tb_in 321 (by decide +kernel) (by decide +kernel)), (tb_in 322 (by decide +kernel) (by decide +kernel))⟩
theorem cv_X7_81 : Cv RX7 81 yX3_add cX3_add 7 (Option.some FieldType.int) 5 := ⟨cb_X3_add, (tb_in 327 (by decide +kernel) (by decide +kernel)), (tb_in 328 (by decide +kernel) (by decide +kernel)), (tb_in 329 (by decide +kernel) (by decide +kernel))⟩
theorem cv_X7_85 : Cv RX7 85 yX3_has cX3_has 2 (Option.some FieldType.boolean) 1 := ⟨cb_X3_has, (tb_in 339 (by decide +kernel) (by decide +kernel)), (tb_in 313 (by decide +kernel) (by decide +kernel)), (tb_in 314 (by decide +kernel) (by decide +kernel))⟩
theorem cv_X7_88 : Cv RX7 88 yX3_fact cX3_fact 3 (Option.some FieldType.int) 2 := ⟨cb_X3_fact, (tb_in 340 (by decide +kernel) (by decide +kernel)), (tb_in 317 (by decide +kernel) (by decide +kernel)), (tb_in 318 (by decide +kernel) (by decide +kernel))⟩
theorem cs_X7_92 : Cs RX7 92 yX3_isOf cX3_isOf 2 (Option.some FieldType.boolean) 2 := ⟨cb_X3_isOf, (tb_in 345 (by decide +kernel) (by decide +kernel)), (tb_in 325 (by decide +kernel) (by decide +kernel))⟩
theorem cv_X7_95 : Cv RX7 95 yX3_lengths cX3_lengths 4 (Option.some FieldType.int) 2 := ⟨cb_X3_lengths, (tb_in 350 (by decide +kernel) (by decide +kernel)), (tb_in 351 (by decide +kernel) (by decide +kernel)), (tb_in 352 (by decide +kernel) (by decide +kernel))⟩
theorem cv_X7_98 : Cv RX7 98 yX3_shortest cX3_shortest 3 (Option.some FieldType.int) 2 := ⟨cb_X3_shortest, (tb_in 380 (by decide +kernel) (by decide +kernel)), (tb_in 370 (by decide +kernel) (by decide +kernel)), (tb_in 371 (by decide +kernel) (by decide +kernel))⟩
theorem cv_X7_101 : Cv RX7 101 yX3_longest cX3_longest 3 (Option.some FieldType.int) 2 := ⟨cb_X3_longest, (tb_in 381 (by decide +kernel) (by decide +kernel)), (tb_in 355 (by decide +kernel) (by decide +kernel)), (tb_in 356 (by decide +kernel) (by decide +kernel))⟩
theorem cv_X7_104 : Cv RX7 104 yX3_overlap cX3_overlap 2 (Option.some FieldType.int) 1 := ⟨cb_X3_overlap, (tb_in 386 (by decide +kernel) (by decide +kernel)), (tb_in 387 (by decide +kernel) (by decide +kernel)), (tb_in 388 (by decide +kernel) (by decide +kernel))⟩
theorem cv_X7_107 : Cv RX7 107 yX3_renumber cX3_renumber 4 (Option.some FieldType.int) 2 := ⟨cb_X3_renumber, (tb_in 390 (by decide +kernel) (by decide +kernel)), (tb_in 391 (by decide +kernel) (by decide +kernel)), (tb_in 392 (by decide +kernel) (by decide +kernel))⟩
theorem cv_X7_110 : Cv RX7 110 yX7_arePair cX7_arePair 3 (Option.some FieldType.boolean) 2 := ⟨cb_X7_arePair, (tb_in 398 (by decide +kernel) (by decide +kernel)), (tb_in 400 (by decide +kernel) (by decide +kernel)), (tb_in 2 (by decide +kernel) (by decide +kernel))⟩
theorem cs_X7_113 : Cs RX7 113 yX7_arePlaces cX7_arePlaces 2 (Option.some FieldType.boolean) 2 := ⟨cb_X7_arePlaces, (tb_in 402 (by decide +kernel) (by decide +kernel)), (tb_in 403 (by decide +kernel) (by decide +kernel))⟩
theorem cv_X7_116 : Cv RX7 116 yX6_isFull cX6_isFull 1 (Option.some FieldType.boolean) 0 := ⟨cb_X6_isFull, (tb_in 405 (by decide +kernel) (by decide +kernel)), (tb_in 406 (by decide +kernel) (by decide +kernel)), (tb_in 407 (by decide +kernel) (by decide +kernel))⟩
theorem cv_X7_120 : Cv RX7 120 yX6_add cX6_add 9 (Option.some FieldType.int) 7 := ⟨cb_X6_add, (tb_in 409 (by decide +kernel) (by decide +kernel)), (tb_in 410 (by decide +kernel) (by decide +kernel)), (tb_in 411 (by decide +kernel) (by decide +kernel))⟩
theorem cs_X7_123 : Cs RX7 123 yX7_isYear cX7_isYear 1 (Option.some FieldType.boolean) 1 := ⟨cb_X7_isYear, (tb_in 418 (by decide +kernel) (by decide +kernel)), (tb_in 419 (by decide +kernel) (by decide +kernel))⟩
theorem cv_X7_126 : Cv RX7 126 yX6_areSkiesFull cX6_areSkiesFull 1 (Option.some FieldType.boolean) 0 := ⟨cb_X6_areSkiesFull, (tb_in 421 (by decide +kernel) (by decide +kernel)), (tb_in 422 (by decide +kernel) (by decide +kernel)), (tb_in 423 (by decide +kernel) (by decide +kernel))⟩
theorem cv_X7_129 : Cv RX7 129 yX6_addSky cX6_addSky 7 (Option.some FieldType.int) 6 := ⟨cb_X6_addSky, (tb_in 425 (by decide +kernel) (by decide +kernel)), (tb_in 426 (by decide +kernel) (by decide +kernel)), (tb_in 427 (by decide +kernel) (by decide +kernel))⟩
theorem cv_X7_133 : Cv RX7 133 yX6_addRing cX6_addRing 5 (Option.some FieldType.int) 4 := ⟨cb_X6_addRing, (tb_in 434 (by decide +kernel) (by decide +kernel)), (tb_in 435 (by decide +kernel) (by decide +kernel)), (tb_in 436 (by decide +kernel) (by decide +kernel))⟩
theorem cv_X7_137 : Cv RX7 137 yX6_has cX6_has 2 (Option.some FieldType.boolean) 1 := ⟨cb_X6_has, (tb_in 446 (by decide +kernel) (by decide +kernel)), (tb_in 447 (by decide +kernel) (by decide +kernel)), (tb_in 448 (by decide +kernel) (by decide +kernel))⟩
theorem cv_X7_138 : Cv RX7 138 yX6_fact cX6_fact 3 (Option.some FieldType.int) 2 := ⟨cb_X6_fact, (tb_in 450 (by decide +kernel) (by decide +kernel)), (tb_in 451 (by decide +kernel) (by decide +kernel)), (tb_in 452 (by decide +kernel) (by decide +kernel))⟩
theorem cv_X7_139 : Cv RX7 139 yX6_size cX6_size 1 (Option.some FieldType.int) 0 := ⟨cb_X6_size, (tb_in 459 (by decide +kernel) (by decide +kernel)), (tb_in 460 (by decide +kernel) (by decide +kernel)), (tb_in 461 (by decide +kernel) (by decide +kernel))⟩
theorem cv_X7_143 : Cv RX7 143 yX6_drop cX6_drop 1 (Option.some FieldType.int) 0 := ⟨cb_X6_drop, (tb_in 463 (by decide +kernel) (by decide +kernel)), (tb_in 464 (by decide +kernel) (by decide +kernel)), (tb_in 465 (by decide +kernel) (by decide +kernel))⟩
theorem cs_X7_146 : Cs RX7 146 yX2_lettersIn cX2_lettersIn 5 (Option.some FieldType.int) 1 := ⟨cb_X2_lettersIn, (tb_in 472 (by decide +kernel) (by decide +kernel)), (tb_in 473 (by decide +kernel) (by decide +kernel))⟩
theorem cv_X7_150 : Cv RX7 150 yX2_size cX2_size 1 (Option.some FieldType.int) 0 := ⟨cb_X2_size, (tb_in 479 (by decide +kernel) (by decide +kernel)), (tb_in 480 (by decide +kernel) (by decide +kernel)), (tb_in 481 (by decide +kernel) (by decide +kernel))⟩
theorem cv_X7_151 : Cv RX7 151 yX2_write cX2_write 5 (Option.some FieldType.int) 2 := ⟨cb_X2_write, (tb_in 483 (by decide +kernel) (by decide +kernel)), (tb_in 484 (by decide +kernel) (by decide +kernel)), (tb_in 485 (by decide +kernel) (by decide +kernel))⟩
theorem cv_X7_155 : Cv RX7 155 yX2_wipe cX2_wipe 2 (Option.some FieldType.int) 0 := ⟨cb_X2_wipe, (tb_in 492 (by decide +kernel) (by decide +kernel)), (tb_in 493 (by decide +kernel) (by decide +kernel)), (tb_in 494 (by decide +kernel) (by decide +kernel))⟩
theorem cv_X7_158 : Cv RX7 158 yX2_firstFault cX2_firstFault 3 (Option.some FieldType.int) 0 := ⟨cb_X2_firstFault, (tb_in 500 (by decide +kernel) (by decide +kernel)), (tb_in 501 (by decide +kernel) (by decide +kernel)), (tb_in 502 (by decide +kernel) (by decide +kernel))⟩
theorem cs_X7_161 : Cs RX7 161 yX7_isSchool cX7_isSchool 1 (Option.some FieldType.boolean) 1 := ⟨cb_X7_isSchool, (tb_in 527 (by decide +kernel) (by decide +kernel)), (tb_in 528 (by decide +kernel) (by decide +kernel))⟩
theorem cv_X7_164 : Cv RX7 164 yX2_isText cX2_isText 1 (Option.some FieldType.boolean) 0 := ⟨cb_X2_isText, (tb_in 530 (by decide +kernel) (by decide +kernel)), (tb_in 531 (by decide +kernel) (by decide +kernel)), (tb_in 532 (by decide +kernel) (by decide +kernel))⟩
theorem cv_X7_167 : Cv RX7 167 yX7_schoolOf cX7_schoolOf 2 (Option.some (FieldType.object "ReignLadders$School")) 1 := ⟨cb_X7_schoolOf, (tb_in 535 (by decide +kernel) (by decide +kernel)), (tb_in 537 (by decide +kernel) (by decide +kernel)), (tb_in 5 (by decide +kernel) (by decide +kernel))⟩
theorem cv_X7_171 : Cv RX7 171 yX4_isFull cX4_isFull 1 (Option.some FieldType.boolean) 0 := ⟨cb_X4_isFull, (tb_in 539 (by decide +kernel) (by decide +kernel)), (tb_in 540 (by decide +kernel) (by decide +kernel)), (tb_in 541 (by decide +kernel) (by decide +kernel))⟩
theorem cv_X7_172 : Cv RX7 172 yX4_learn cX4_learn 3 (Option.some FieldType.int) 1 := ⟨cb_X4_learn, (tb_in 543 (by decide +kernel) (by decide +kernel)), (tb_in 544 (by decide +kernel) (by decide +kernel)), (tb_in 545 (by decide +kernel) (by decide +kernel))⟩
theorem cv_X7_176 : Cv RX7 176 yX4_size cX4_size 1 (Option.some FieldType.int) 0 := ⟨cb_X4_size, (tb_in 554 (by decide +kernel) (by decide +kernel)), (tb_in 555 (by decide +kernel) (by decide +kernel)), (tb_in 556 (by decide +kernel) (by decide +kernel))⟩
theorem cv_X7_177 : Cv RX7 177 yX4_unlearn cX4_unlearn 1 (Option.some FieldType.int) 0 := ⟨cb_X4_unlearn, (tb_in 558 (by decide +kernel) (by decide +kernel)), (tb_in 559 (by decide +kernel) (by decide +kernel)), (tb_in 560 (by decide +kernel) (by decide +kernel))⟩
theorem cv_X7_180 : Cv RX7 180 yX7_countFor cX7_countFor 3 (Option.some FieldType.int) 2 := ⟨cb_X7_countFor, (tb_in 566 (by decide +kernel) (by decide +kernel)), (tb_in 568 (by decide +kernel) (by decide +kernel)), (tb_in 6 (by decide +kernel) (by decide +kernel))⟩
theorem cv_X7_183 : Cv RX7 183 yX7_beliefFor cX7_beliefFor 3 (Option.some FieldType.int) 2 := ⟨cb_X7_beliefFor, (tb_in 611 (by decide +kernel) (by decide +kernel)), (tb_in 613 (by decide +kernel) (by decide +kernel)), (tb_in 11 (by decide +kernel) (by decide +kernel))⟩
theorem cs_X7_186 : Cs RX7 186 yX7_refusal cX7_refusal 2 (Option.some FieldType.int) 2 := ⟨cb_X7_refusal, (tb_in 619 (by decide +kernel) (by decide +kernel)), (tb_in 620 (by decide +kernel) (by decide +kernel))⟩
theorem cv_X7_189 : Cv RX7 189 yX7_lay cX7_lay 5 (Option.some FieldType.int) 2 := ⟨cb_X7_lay, (tb_in 622 (by decide +kernel) (by decide +kernel)), (tb_in 624 (by decide +kernel) (by decide +kernel)), (tb_in 12 (by decide +kernel) (by decide +kernel))⟩
theorem cv_X7_192 : Cv RX7 192 yX1_find cX1_find 5 (Option.some FieldType.boolean) 3 := ⟨cb_X1_find, (tb_in 669 (by decide +kernel) (by decide +kernel)), (tb_in 670 (by decide +kernel) (by decide +kernel)), (tb_in 671 (by decide +kernel) (by decide +kernel))⟩
theorem cv_X7_196 : Cv RX7 196 yX1_end cX1_end 3 (Option.some FieldType.int) 2 := ⟨cb_X1_end, (tb_in 744 (by decide +kernel) (by decide +kernel)), (tb_in 745 (by decide +kernel) (by decide +kernel)), (tb_in 746 (by decide +kernel) (by decide +kernel))⟩
theorem cv_X7_199 : Cv RX7 199 yX7_holders cX7_holders 8 (Option.some FieldType.int) 3 := ⟨cb_X7_holders, (tb_in 752 (by decide +kernel) (by decide +kernel)), (tb_in 754 (by decide +kernel) (by decide +kernel)), (tb_in 24 (by decide +kernel) (by decide +kernel))⟩
theorem cv_X7_203 : Cv RX7 203 yX7_doubted cX7_doubted 8 (Option.some FieldType.int) 2 := ⟨cb_X7_doubted, (tb_in 760 (by decide +kernel) (by decide +kernel)), (tb_in 762 (by decide +kernel) (by decide +kernel)), (tb_in 25 (by decide +kernel) (by decide +kernel))⟩
theorem cv_X7_206 : Cv RX7 206 yX7_believedBy cX7_believedBy 5 (Option.some FieldType.int) 2 := ⟨cb_X7_believedBy, (tb_in 660 (by decide +kernel) (by decide +kernel)), (tb_in 662 (by decide +kernel) (by decide +kernel)), (tb_in 14 (by decide +kernel) (by decide +kernel))⟩
theorem cv_X7_209 : Cv RX7 209 yX7_afloat cX7_afloat 6 (Option.some FieldType.int) 2 := ⟨cb_X7_afloat, (tb_in 774 (by decide +kernel) (by decide +kernel)), (tb_in 776 (by decide +kernel) (by decide +kernel)), (tb_in 26 (by decide +kernel) (by decide +kernel))⟩
theorem cv_X7_212 : Cv RX7 212 yX1_openness cX1_openness 3 (Option.some FieldType.int) 0 := ⟨cb_X1_openness, (tb_in 795 (by decide +kernel) (by decide +kernel)), (tb_in 796 (by decide +kernel) (by decide +kernel)), (tb_in 797 (by decide +kernel) (by decide +kernel))⟩
theorem cv_X7_215 : Cv RX7 215 yX1_keepSpans cX1_keepSpans 2 (Option.none : Option FieldType) 0 := ⟨cb_X1_keepSpans, (tb_in 804 (by decide +kernel) (by decide +kernel)), (tb_in 805 (by decide +kernel) (by decide +kernel)), (tb_in 806 (by decide +kernel) (by decide +kernel))⟩
theorem cv_X7_218 : Cv RX7 218 yX1_firstUnlikeKept cX1_firstUnlikeKept 2 (Option.some FieldType.int) 0 := ⟨cb_X1_firstUnlikeKept, (tb_in 808 (by decide +kernel) (by decide +kernel)), (tb_in 809 (by decide +kernel) (by decide +kernel)), (tb_in 810 (by decide +kernel) (by decide +kernel))⟩
theorem cv_X7_221 : Cv RX7 221 yX7_gain cX7_gain 5 (Option.some FieldType.int) 4 := ⟨cb_X7_gain, (tb_in 820 (by decide +kernel) (by decide +kernel)), (tb_in 822 (by decide +kernel) (by decide +kernel)), (tb_in 27 (by decide +kernel) (by decide +kernel))⟩
theorem cv_X7_224 : Cv RX7 224 yX3_retell cX3_retell 4 (Option.some FieldType.int) 2 := ⟨cb_X3_retell, (tb_in 832 (by decide +kernel) (by decide +kernel)), (tb_in 833 (by decide +kernel) (by decide +kernel)), (tb_in 834 (by decide +kernel) (by decide +kernel))⟩
theorem cv_X7_227 : Cv RX7 227 yX3_size cX3_size 1 (Option.some FieldType.int) 0 := ⟨cb_X3_size, (tb_in 626 (by decide +kernel) (by decide +kernel)), (tb_in 627 (by decide +kernel) (by decide +kernel)), (tb_in 628 (by decide +kernel) (by decide +kernel))⟩
theorem cv_X7_228 : Cv RX7 228 yX3_isToldBehind cX3_isToldBehind 7 (Option.some FieldType.boolean) 3 := ⟨cb_X3_isToldBehind, (tb_in 844 (by decide +kernel) (by decide +kernel)), (tb_in 845 (by decide +kernel) (by decide +kernel)), (tb_in 846 (by decide +kernel) (by decide +kernel))⟩
theorem cv_X7_231 : Cv RX7 231 yX6_holdsAsTold cX6_holdsAsTold 5 (Option.some FieldType.boolean) 2 := ⟨cb_X6_holdsAsTold, (tb_in 850 (by decide +kernel) (by decide +kernel)), (tb_in 851 (by decide +kernel) (by decide +kernel)), (tb_in 852 (by decide +kernel) (by decide +kernel))⟩
theorem cv_X7_237 : Cv RX7 237 yX3_digestOn cX3_digestOn 7 (Option.some FieldType.long) 1 := ⟨cb_X3_digestOn, (tb_in 869 (by decide +kernel) (by decide +kernel)), (tb_in 870 (by decide +kernel) (by decide +kernel)), (tb_in 871 (by decide +kernel) (by decide +kernel))⟩
theorem cv_X7_241 : Cv RX7 241 yX6_digestOn cX6_digestOn 7 (Option.some FieldType.long) 1 := ⟨cb_X6_digestOn, (tb_in 874 (by decide +kernel) (by decide +kernel)), (tb_in 875 (by decide +kernel) (by decide +kernel)), (tb_in 876 (by decide +kernel) (by decide +kernel))⟩
theorem cv_X7_242 : Cv RX7 242 yX7_sayingsDigest cX7_sayingsDigest 7 (Option.some FieldType.long) 2 := ⟨cb_X7_sayingsDigest, (tb_in 883 (by decide +kernel) (by decide +kernel)), (tb_in 885 (by decide +kernel) (by decide +kernel)), (tb_in 28 (by decide +kernel) (by decide +kernel))⟩
theorem cv_X7_248 : Cv RX7 248 yX7_can cX7_can 4 (Option.some FieldType.int) 2 := ⟨cb_X7_can, (tb_in 888 (by decide +kernel) (by decide +kernel)), (tb_in 616 (by decide +kernel) (by decide +kernel)), (tb_in 617 (by decide +kernel) (by decide +kernel))⟩
theorem cv_X7_251 : Cv RX7 251 yX7_floats cX7_floats 4 (Option.some FieldType.int) 2 := ⟨cb_X7_floats, (tb_in 889 (by decide +kernel) (by decide +kernel)), (tb_in 771 (by decide +kernel) (by decide +kernel)), (tb_in 772 (by decide +kernel) (by decide +kernel))⟩
theorem cv_X7_254 : Cv RX7 254 yX6_digestPairsOn cX6_digestPairsOn 7 (Option.some FieldType.long) 1 := ⟨cb_X6_digestPairsOn, (tb_in 890 (by decide +kernel) (by decide +kernel)), (tb_in 891 (by decide +kernel) (by decide +kernel)), (tb_in 892 (by decide +kernel) (by decide +kernel))⟩
theorem cv_X7_257 : Cv RX7 257 yX2_digestOn cX2_digestOn 6 (Option.some FieldType.long) 1 := ⟨cb_X2_digestOn, (tb_in 894 (by decide +kernel) (by decide +kernel)), (tb_in 895 (by decide +kernel) (by decide +kernel)), (tb_in 896 (by decide +kernel) (by decide +kernel))⟩
theorem cv_X7_258 : Cv RX7 258 yX7_count cX7_count 2 (Option.some FieldType.int) 1 := ⟨cb_X7_count, (tb_in 899 (by decide +kernel) (by decide +kernel)), (tb_in 861 (by decide +kernel) (by decide +kernel)), (tb_in 862 (by decide +kernel) (by decide +kernel))⟩
theorem cv_X7_261 : Cv RX7 261 yX5_set cX5_set 5 (Option.none : Option FieldType) 4 := ⟨cb_X5_set, (tb_in 570 (by decide +kernel) (by decide +kernel)), (tb_in 571 (by decide +kernel) (by decide +kernel)), (tb_in 572 (by decide +kernel) (by decide +kernel))⟩
theorem cv_X7_265 : Cv RX7 265 yX4_says cX4_says 7 (Option.some FieldType.int) 3 := ⟨cb_X4_says, (tb_in 574 (by decide +kernel) (by decide +kernel)), (tb_in 575 (by decide +kernel) (by decide +kernel)), (tb_in 576 (by decide +kernel) (by decide +kernel))⟩
theorem cv_X7_269 : Cv RX7 269 yX6_isKnown cX6_isKnown 5 (Option.some FieldType.boolean) 3 := ⟨cb_X6_isKnown, (tb_in 664 (by decide +kernel) (by decide +kernel)), (tb_in 665 (by decide +kernel) (by decide +kernel)), (tb_in 666 (by decide +kernel) (by decide +kernel))⟩
theorem cv_X7_272 : Cv RX7 272 yX1_layLists cX1_layLists 5 (Option.none : Option FieldType) 2 := ⟨cb_X1_layLists, (tb_in 630 (by decide +kernel) (by decide +kernel)), (tb_in 631 (by decide +kernel) (by decide +kernel)), (tb_in 632 (by decide +kernel) (by decide +kernel))⟩
theorem cs_X7_276 : Cs RX7 276 yJ_bitCount cJ_bitCount 1 (Option.some FieldType.int) 1 := ⟨cb_J_bitCount, (tb_in 764 (by decide +kernel) (by decide +kernel)), (tb_in 765 (by decide +kernel) (by decide +kernel))⟩
theorem cv_X7_281 : Cv RX7 281 yX6_spread cX6_spread 7 (Option.some FieldType.int) 2 := ⟨cb_X6_spread, (tb_in 778 (by decide +kernel) (by decide +kernel)), (tb_in 779 (by decide +kernel) (by decide +kernel)), (tb_in 780 (by decide +kernel) (by decide +kernel))⟩
theorem cv_X7_284 : Cv RX7 284 yX3_spreadInLands cX3_spreadInLands 7 (Option.some FieldType.int) 2 := ⟨cb_X3_spreadInLands, (tb_in 782 (by decide +kernel) (by decide +kernel)), (tb_in 783 (by decide +kernel) (by decide +kernel)), (tb_in 784 (by decide +kernel) (by decide +kernel))⟩
theorem cv_X7_287 : Cv RX7 287 yX3_knownBits cX3_knownBits 4 (Option.some FieldType.int) 1 := ⟨cb_X3_knownBits, (tb_in 787 (by decide +kernel) (by decide +kernel)), (tb_in 788 (by decide +kernel) (by decide +kernel)), (tb_in 789 (by decide +kernel) (by decide +kernel))⟩
theorem cn_X0_19 : Cn RX0 19 yX7_within cX7_within 3 (Option.some FieldType.boolean) 3 := ⟨cb_X7_within, ⟨"ReignLadders", List.mem_of_getElem? (i := 11) (by decide +kernel)⟩, (tb_in 113 (by decide +kernel) (by decide +kernel))⟩
theorem cn_X0_23 : Cn RX0 23 yX7_put cX7_put 3 (Option.none : Option FieldType) 3 := ⟨cb_X7_put, ⟨"ReignLadders", List.mem_of_getElem? (i := 12) (by decide +kernel)⟩, (tb_in 332 (by decide +kernel) (by decide +kernel))⟩
theorem cn_X0_33 : Cn RX0 33 yX7_at cX7_at 2 (Option.some FieldType.int) 2 := ⟨cb_X7_at, ⟨"ReignLadders", List.mem_of_getElem? (i := 15) (by decide +kernel)⟩, (tb_in 306 (by decide +kernel) (by decide +kernel))⟩
theorem cv_X0_37 : Cv RX0 37 yX0_hold cX0_hold 10 (Option.some FieldType.boolean) 3 := ⟨cb_X0_hold, (tb_in 654 (by decide +kernel) (by decide +kernel)), (tb_in 655 (by decide +kernel) (by decide +kernel)), (tb_in 656 (by decide +kernel) (by decide +kernel))⟩
theorem cv_X0_40 : Cv RX0 40 yX0_most cX0_most 3 (Option.some FieldType.int) 2 := ⟨cb_X0_most, (tb_in 728 (by decide +kernel) (by decide +kernel)), (tb_in 729 (by decide +kernel) (by decide +kernel)), (tb_in 730 (by decide +kernel) (by decide +kernel))⟩
theorem cv_X1_74 : Cv RX1 74 yX3_size cX3_size 1 (Option.some FieldType.int) 0 := ⟨cb_X3_size, (tb_in 634 (by decide +kernel) (by decide +kernel)), (tb_in 627 (by decide +kernel) (by decide +kernel)), (tb_in 628 (by decide +kernel) (by decide +kernel))⟩
theorem cv_X1_80 : Cv RX1 80 yX0_clear cX0_clear 5 (Option.none : Option FieldType) 1 := ⟨cb_X0_clear, (tb_in 635 (by decide +kernel) (by decide +kernel)), (tb_in 636 (by decide +kernel) (by decide +kernel)), (tb_in 637 (by decide +kernel) (by decide +kernel))⟩
theorem cv_X1_84 : Cv RX1 84 yX3_fact cX3_fact 3 (Option.some FieldType.int) 2 := ⟨cb_X3_fact, (tb_in 641 (by decide +kernel) (by decide +kernel)), (tb_in 317 (by decide +kernel) (by decide +kernel)), (tb_in 318 (by decide +kernel) (by decide +kernel))⟩
theorem cv_X1_88 : Cv RX1 88 yX3_isKnown cX3_isKnown 3 (Option.some FieldType.boolean) 2 := ⟨cb_X3_isKnown, (tb_in 642 (by decide +kernel) (by decide +kernel)), (tb_in 309 (by decide +kernel) (by decide +kernel)), (tb_in 310 (by decide +kernel) (by decide +kernel))⟩
theorem cv_X1_92 : Cv RX1 92 yX1_layBehind cX1_layBehind 6 (Option.none : Option FieldType) 3 := ⟨cb_X1_layBehind, (tb_in 643 (by decide +kernel) (by decide +kernel)), (tb_in 645 (by decide +kernel) (by decide +kernel)), (tb_in 13 (by decide +kernel) (by decide +kernel))⟩
theorem cv_X1_96 : Cv RX1 96 yX3_shortest cX3_shortest 3 (Option.some FieldType.int) 2 := ⟨cb_X3_shortest, (tb_in 647 (by decide +kernel) (by decide +kernel)), (tb_in 370 (by decide +kernel) (by decide +kernel)), (tb_in 371 (by decide +kernel) (by decide +kernel))⟩
theorem cv_X1_99 : Cv RX1 99 yX3_overlap cX3_overlap 2 (Option.some FieldType.int) 1 := ⟨cb_X3_overlap, (tb_in 648 (by decide +kernel) (by decide +kernel)), (tb_in 387 (by decide +kernel) (by decide +kernel)), (tb_in 388 (by decide +kernel) (by decide +kernel))⟩
theorem cv_X1_103 : Cv RX1 103 yX3_longest cX3_longest 3 (Option.some FieldType.int) 2 := ⟨cb_X3_longest, (tb_in 649 (by decide +kernel) (by decide +kernel)), (tb_in 355 (by decide +kernel) (by decide +kernel)), (tb_in 356 (by decide +kernel) (by decide +kernel))⟩
theorem cv_X1_106 : Cv RX1 106 yX0_keep cX0_keep 5 (Option.some FieldType.boolean) 4 := ⟨cb_X0_keep, (tb_in 650 (by decide +kernel) (by decide +kernel)), (tb_in 651 (by decide +kernel) (by decide +kernel)), (tb_in 652 (by decide +kernel) (by decide +kernel))⟩
theorem cv_X1_110 : Cv RX1 110 yX3_isMisread cX3_isMisread 2 (Option.some FieldType.boolean) 1 := ⟨cb_X3_isMisread, (tb_in 658 (by decide +kernel) (by decide +kernel)), (tb_in 377 (by decide +kernel) (by decide +kernel)), (tb_in 378 (by decide +kernel) (by decide +kernel))⟩
theorem cn_X1_114 : Cn RX1 114 yX7_put cX7_put 3 (Option.none : Option FieldType) 3 := ⟨cb_X7_put, ⟨"ReignLadders", List.mem_of_getElem? (i := 13) (by decide +kernel)⟩, (tb_in 332 (by decide +kernel) (by decide +kernel))⟩
theorem cv_X1_118 : Cv RX1 118 yX1_layTies cX1_layTies 3 (Option.some FieldType.boolean) 1 := ⟨cb_X1_layTies, (tb_in 673 (by decide +kernel) (by decide +kernel)), (tb_in 675 (by decide +kernel) (by decide +kernel)), (tb_in 15 (by decide +kernel) (by decide +kernel))⟩
theorem cv_X1_121 : Cv RX1 121 yX1_layPair cX1_layPair 5 (Option.some FieldType.boolean) 2 := ⟨cb_X1_layPair, (tb_in 690 (by decide +kernel) (by decide +kernel)), (tb_in 692 (by decide +kernel) (by decide +kernel)), (tb_in 17 (by decide +kernel) (by decide +kernel))⟩
theorem cv_X1_125 : Cv RX1 125 yX0_copy cX0_copy 2 (Option.none : Option FieldType) 1 := ⟨cb_X0_copy, (tb_in 677 (by decide +kernel) (by decide +kernel)), (tb_in 678 (by decide +kernel) (by decide +kernel)), (tb_in 679 (by decide +kernel) (by decide +kernel))⟩
theorem cv_X1_129 : Cv RX1 129 yX1_takeForks cX1_takeForks 6 (Option.some FieldType.boolean) 1 := ⟨cb_X1_takeForks, (tb_in 703 (by decide +kernel) (by decide +kernel)), (tb_in 705 (by decide +kernel) (by decide +kernel)), (tb_in 18 (by decide +kernel) (by decide +kernel))⟩
theorem cv_X1_132 : Cv RX1 132 yX1_tryYears cX1_tryYears 6 (Option.none : Option FieldType) 1 := ⟨cb_X1_tryYears, (tb_in 708 (by decide +kernel) (by decide +kernel)), (tb_in 710 (by decide +kernel) (by decide +kernel)), (tb_in 19 (by decide +kernel) (by decide +kernel))⟩
theorem cv_X1_136 : Cv RX1 136 yX6_size cX6_size 1 (Option.some FieldType.int) 0 := ⟨cb_X6_size, (tb_in 684 (by decide +kernel) (by decide +kernel)), (tb_in 460 (by decide +kernel) (by decide +kernel)), (tb_in 461 (by decide +kernel) (by decide +kernel))⟩
theorem cv_X1_139 : Cv RX1 139 yX1_layTie cX1_layTie 3 (Option.some FieldType.boolean) 1 := ⟨cb_X1_layTie, (tb_in 685 (by decide +kernel) (by decide +kernel)), (tb_in 687 (by decide +kernel) (by decide +kernel)), (tb_in 16 (by decide +kernel) (by decide +kernel))⟩
theorem cv_X1_142 : Cv RX1 142 yX6_fact cX6_fact 3 (Option.some FieldType.int) 2 := ⟨cb_X6_fact, (tb_in 689 (by decide +kernel) (by decide +kernel)), (tb_in 451 (by decide +kernel) (by decide +kernel)), (tb_in 452 (by decide +kernel) (by decide +kernel))⟩
theorem cv_X1_143 : Cv RX1 143 yX6_beginning cX6_beginning 3 (Option.some FieldType.int) 2 := ⟨cb_X6_beginning, (tb_in 698 (by decide +kernel) (by decide +kernel)), (tb_in 699 (by decide +kernel) (by decide +kernel)), (tb_in 700 (by decide +kernel) (by decide +kernel))⟩
theorem cv_X1_146 : Cv RX1 146 yX0_hold cX0_hold 10 (Option.some FieldType.boolean) 3 := ⟨cb_X0_hold, (tb_in 702 (by decide +kernel) (by decide +kernel)), (tb_in 655 (by decide +kernel) (by decide +kernel)), (tb_in 656 (by decide +kernel) (by decide +kernel))⟩
theorem cv_X1_150 : Cv RX1 150 yX6_shift cX6_shift 2 (Option.some FieldType.int) 1 := ⟨cb_X6_shift, (tb_in 694 (by decide +kernel) (by decide +kernel)), (tb_in 695 (by decide +kernel) (by decide +kernel)), (tb_in 696 (by decide +kernel) (by decide +kernel))⟩
theorem cn_X1_153 : Cn RX1 153 yX7_at cX7_at 2 (Option.some FieldType.int) 2 := ⟨cb_X7_at, ⟨"ReignLadders", List.mem_of_getElem? (i := 14) (by decide +kernel)⟩, (tb_in 306 (by decide +kernel) (by decide +kernel))⟩
theorem cv_X1_157 : Cv RX1 157 yX1_yearsOf cX1_yearsOf 2 (Option.some FieldType.int) 1 := ⟨cb_X1_yearsOf, (tb_in 712 (by decide +kernel) (by decide +kernel)), (tb_in 714 (by decide +kernel) (by decide +kernel)), (tb_in 20 (by decide +kernel) (by decide +kernel))⟩
theorem cv_X1_160 : Cv RX1 160 yX1_beginning cX1_beginning 3 (Option.some FieldType.int) 2 := ⟨cb_X1_beginning, (tb_in 716 (by decide +kernel) (by decide +kernel)), (tb_in 718 (by decide +kernel) (by decide +kernel)), (tb_in 21 (by decide +kernel) (by decide +kernel))⟩
theorem cv_X1_161 : Cv RX1 161 yX1_pointOf cX1_pointOf 2 (Option.some FieldType.int) 1 := ⟨cb_X1_pointOf, (tb_in 720 (by decide +kernel) (by decide +kernel)), (tb_in 722 (by decide +kernel) (by decide +kernel)), (tb_in 22 (by decide +kernel) (by decide +kernel))⟩
theorem cv_X1_164 : Cv RX1 164 yX0_allows cX0_allows 5 (Option.some FieldType.boolean) 4 := ⟨cb_X0_allows, (tb_in 724 (by decide +kernel) (by decide +kernel)), (tb_in 725 (by decide +kernel) (by decide +kernel)), (tb_in 726 (by decide +kernel) (by decide +kernel))⟩
theorem cv_X1_167 : Cv RX1 167 yX1_widen cX1_widen 9 (Option.none : Option FieldType) 2 := ⟨cb_X1_widen, (tb_in 733 (by decide +kernel) (by decide +kernel)), (tb_in 735 (by decide +kernel) (by decide +kernel)), (tb_in 23 (by decide +kernel) (by decide +kernel))⟩
theorem cv_X1_171 : Cv RX1 171 yX0_most cX0_most 3 (Option.some FieldType.int) 2 := ⟨cb_X0_most, (tb_in 737 (by decide +kernel) (by decide +kernel)), (tb_in 729 (by decide +kernel) (by decide +kernel)), (tb_in 730 (by decide +kernel) (by decide +kernel))⟩
theorem cs_X1_174 : Cs RX1 174 yJ_min cJ_min 2 (Option.some FieldType.int) 2 := ⟨cb_J_min, (tb_in 738 (by decide +kernel) (by decide +kernel)), (tb_in 374 (by decide +kernel) (by decide +kernel))⟩
theorem cs_X1_179 : Cs RX1 179 yJ_max cJ_max 2 (Option.some FieldType.int) 2 := ⟨cb_J_max, (tb_in 739 (by decide +kernel) (by decide +kernel)), (tb_in 367 (by decide +kernel) (by decide +kernel))⟩
theorem cv_X1_182 : Cv RX1 182 yX1_end cX1_end 3 (Option.some FieldType.int) 2 := ⟨cb_X1_end, (tb_in 799 (by decide +kernel) (by decide +kernel)), (tb_in 745 (by decide +kernel) (by decide +kernel)), (tb_in 746 (by decide +kernel) (by decide +kernel))⟩
theorem cn_X2_25 : Cn RX2 25 yX7_at cX7_at 2 (Option.some FieldType.int) 2 := ⟨cb_X7_at, ⟨"ReignLadders", List.mem_of_getElem? (i := 7) (by decide +kernel)⟩, (tb_in 306 (by decide +kernel) (by decide +kernel))⟩
theorem cs_X2_31 : Cs RX2 31 yX2_byteOf cX2_byteOf 3 (Option.some FieldType.int) 2 := ⟨cb_X2_byteOf, (tb_in 475 (by decide +kernel) (by decide +kernel)), (tb_in 476 (by decide +kernel) (by decide +kernel))⟩
theorem cn_X2_35 : Cn RX2 35 yX7_put cX7_put 3 (Option.none : Option FieldType) 3 := ⟨cb_X7_put, ⟨"ReignLadders", List.mem_of_getElem? (i := 6) (by decide +kernel)⟩, (tb_in 332 (by decide +kernel) (by decide +kernel))⟩
theorem cv_X2_39 : Cv RX2 39 yX2_letterAt cX2_letterAt 2 (Option.some FieldType.int) 1 := ⟨cb_X2_letterAt, (tb_in 504 (by decide +kernel) (by decide +kernel)), (tb_in 505 (by decide +kernel) (by decide +kernel)), (tb_in 506 (by decide +kernel) (by decide +kernel))⟩
theorem cv_X2_43 : Cv RX2 43 yX2_after cX2_after 2 (Option.some FieldType.int) 1 := ⟨cb_X2_after, (tb_in 509 (by decide +kernel) (by decide +kernel)), (tb_in 511 (by decide +kernel) (by decide +kernel)), (tb_in 3 (by decide +kernel) (by decide +kernel))⟩
theorem cv_X2_46 : Cv RX2 46 yX2_firstFault cX2_firstFault 3 (Option.some FieldType.int) 0 := ⟨cb_X2_firstFault, (tb_in 534 (by decide +kernel) (by decide +kernel)), (tb_in 501 (by decide +kernel) (by decide +kernel)), (tb_in 502 (by decide +kernel) (by decide +kernel))⟩
theorem cs_X2_50 : Cs RX2 50 yX2_afterFactorBegins cX2_afterFactorBegins 1 (Option.some FieldType.int) 1 := ⟨cb_X2_afterFactorBegins, (tb_in 513 (by decide +kernel) (by decide +kernel)), (tb_in 514 (by decide +kernel) (by decide +kernel))⟩
theorem cs_X2_53 : Cs RX2 53 yX2_isDigit cX2_isDigit 1 (Option.some FieldType.boolean) 1 := ⟨cb_X2_isDigit, (tb_in 516 (by decide +kernel) (by decide +kernel)), (tb_in 517 (by decide +kernel) (by decide +kernel))⟩
theorem cv_X2_57 : Cv RX2 57 yX2_afterFactorEnds cX2_afterFactorEnds 2 (Option.some FieldType.int) 1 := ⟨cb_X2_afterFactorEnds, (tb_in 519 (by decide +kernel) (by decide +kernel)), (tb_in 521 (by decide +kernel) (by decide +kernel)), (tb_in 4 (by decide +kernel) (by decide +kernel))⟩
theorem cn_X3_28 : Cn RX3 28 yX7_at cX7_at 2 (Option.some FieldType.int) 2 := ⟨cb_X7_at, ⟨"ReignLadders", List.mem_of_getElem? (i := 2) (by decide +kernel)⟩, (tb_in 306 (by decide +kernel) (by decide +kernel))⟩
theorem cs_X3_32 : Cs RX3 32 yX3_isOf cX3_isOf 2 (Option.some FieldType.boolean) 2 := ⟨cb_X3_isOf, (tb_in 324 (by decide +kernel) (by decide +kernel)), (tb_in 325 (by decide +kernel) (by decide +kernel))⟩
theorem cn_X3_36 : Cn RX3 36 yX7_put cX7_put 3 (Option.none : Option FieldType) 3 := ⟨cb_X7_put, ⟨"ReignLadders", List.mem_of_getElem? (i := 3) (by decide +kernel)⟩, (tb_in 332 (by decide +kernel) (by decide +kernel))⟩
theorem cv_X3_40 : Cv RX3 40 yX3_lastOf cX3_lastOf 2 (Option.some FieldType.int) 1 := ⟨cb_X3_lastOf, (tb_in 334 (by decide +kernel) (by decide +kernel)), (tb_in 302 (by decide +kernel) (by decide +kernel)), (tb_in 303 (by decide +kernel) (by decide +kernel))⟩
theorem cv_X3_44 : Cv RX3 44 yX3_fact cX3_fact 3 (Option.some FieldType.int) 2 := ⟨cb_X3_fact, (tb_in 316 (by decide +kernel) (by decide +kernel)), (tb_in 317 (by decide +kernel) (by decide +kernel)), (tb_in 318 (by decide +kernel) (by decide +kernel))⟩
theorem cv_X3_48 : Cv RX3 48 yX3_toldYear cX3_toldYear 2 (Option.some FieldType.int) 1 := ⟨cb_X3_toldYear, (tb_in 836 (by decide +kernel) (by decide +kernel)), (tb_in 837 (by decide +kernel) (by decide +kernel)), (tb_in 838 (by decide +kernel) (by decide +kernel))⟩
theorem cv_X3_51 : Cv RX3 51 yX3_has cX3_has 2 (Option.some FieldType.boolean) 1 := ⟨cb_X3_has, (tb_in 312 (by decide +kernel) (by decide +kernel)), (tb_in 313 (by decide +kernel) (by decide +kernel)), (tb_in 314 (by decide +kernel) (by decide +kernel))⟩
theorem cv_X3_55 : Cv RX3 55 yX3_isKnown cX3_isKnown 3 (Option.some FieldType.boolean) 2 := ⟨cb_X3_isKnown, (tb_in 786 (by decide +kernel) (by decide +kernel)), (tb_in 309 (by decide +kernel) (by decide +kernel)), (tb_in 310 (by decide +kernel) (by decide +kernel))⟩
theorem cs_X3_58 : Cs RX3 58 yJ_max cJ_max 2 (Option.some FieldType.int) 2 := ⟨cb_J_max, (tb_in 366 (by decide +kernel) (by decide +kernel)), (tb_in 367 (by decide +kernel) (by decide +kernel))⟩
theorem cv_X3_63 : Cv RX3 63 yX3_counted cX3_counted 3 (Option.some FieldType.int) 2 := ⟨cb_X3_counted, (tb_in 358 (by decide +kernel) (by decide +kernel)), (tb_in 360 (by decide +kernel) (by decide +kernel)), (tb_in 0 (by decide +kernel) (by decide +kernel))⟩
theorem cv_X3_66 : Cv RX3 66 yX3_otherReading cX3_otherReading 4 (Option.some FieldType.int) 2 := ⟨cb_X3_otherReading, (tb_in 362 (by decide +kernel) (by decide +kernel)), (tb_in 364 (by decide +kernel) (by decide +kernel)), (tb_in 1 (by decide +kernel) (by decide +kernel))⟩
theorem cs_X3_69 : Cs RX3 69 yJ_min cJ_min 2 (Option.some FieldType.int) 2 := ⟨cb_J_min, (tb_in 373 (by decide +kernel) (by decide +kernel)), (tb_in 374 (by decide +kernel) (by decide +kernel))⟩
theorem cv_X3_72 : Cv RX3 72 yX3_longest cX3_longest 3 (Option.some FieldType.int) 2 := ⟨cb_X3_longest, (tb_in 354 (by decide +kernel) (by decide +kernel)), (tb_in 355 (by decide +kernel) (by decide +kernel)), (tb_in 356 (by decide +kernel) (by decide +kernel))⟩
theorem cv_X3_75 : Cv RX3 75 yX3_shortest cX3_shortest 3 (Option.some FieldType.int) 2 := ⟨cb_X3_shortest, (tb_in 369 (by decide +kernel) (by decide +kernel)), (tb_in 370 (by decide +kernel) (by decide +kernel)), (tb_in 371 (by decide +kernel) (by decide +kernel))⟩
theorem cv_X3_78 : Cv RX3 78 yX3_isMisread cX3_isMisread 2 (Option.some FieldType.boolean) 1 := ⟨cb_X3_isMisread, (tb_in 376 (by decide +kernel) (by decide +kernel)), (tb_in 377 (by decide +kernel) (by decide +kernel)), (tb_in 378 (by decide +kernel) (by decide +kernel))⟩
theorem cv_X3_81 : Cv RX3 81 yX3_overlap cX3_overlap 2 (Option.some FieldType.int) 1 := ⟨cb_X3_overlap, (tb_in 848 (by decide +kernel) (by decide +kernel)), (tb_in 387 (by decide +kernel) (by decide +kernel)), (tb_in 388 (by decide +kernel) (by decide +kernel))⟩
theorem cn_X3_84 : Cn RX3 84 yX7_within cX7_within 3 (Option.some FieldType.boolean) 3 := ⟨cb_X7_within, ⟨"ReignLadders", List.mem_of_getElem? (i := 16) (by decide +kernel)⟩, (tb_in 113 (by decide +kernel) (by decide +kernel))⟩
theorem cv_X4_22 : Cv RX4 22 yX2_size cX2_size 1 (Option.some FieldType.int) 0 := ⟨cb_X2_size, (tb_in 547 (by decide +kernel) (by decide +kernel)), (tb_in 480 (by decide +kernel) (by decide +kernel)), (tb_in 481 (by decide +kernel) (by decide +kernel))⟩
theorem cv_X4_27 : Cv RX4 27 yX2_letterAt cX2_letterAt 2 (Option.some FieldType.int) 1 := ⟨cb_X2_letterAt, (tb_in 548 (by decide +kernel) (by decide +kernel)), (tb_in 505 (by decide +kernel) (by decide +kernel)), (tb_in 506 (by decide +kernel) (by decide +kernel))⟩
theorem cn_X4_31 : Cn RX4 31 yX7_put cX7_put 3 (Option.none : Option FieldType) 3 := ⟨cb_X7_put, ⟨"ReignLadders", List.mem_of_getElem? (i := 8) (by decide +kernel)⟩, (tb_in 332 (by decide +kernel) (by decide +kernel))⟩
theorem cn_X4_35 : Cn RX4 35 yX7_at cX7_at 2 (Option.some FieldType.int) 2 := ⟨cb_X7_at, ⟨"ReignLadders", List.mem_of_getElem? (i := 9) (by decide +kernel)⟩, (tb_in 306 (by decide +kernel) (by decide +kernel))⟩
theorem cv_X4_39 : Cv RX4 39 yX5_meets cX5_meets 8 (Option.some FieldType.boolean) 3 := ⟨cb_X5_meets, (tb_in 579 (by decide +kernel) (by decide +kernel)), (tb_in 580 (by decide +kernel) (by decide +kernel)), (tb_in 581 (by decide +kernel) (by decide +kernel))⟩
theorem cn_X5_34 : Cn RX5 34 yX7_at cX7_at 2 (Option.some FieldType.int) 2 := ⟨cb_X7_at, ⟨"ReignLadders", List.mem_of_getElem? (i := 10) (by decide +kernel)⟩, (tb_in 306 (by decide +kernel) (by decide +kernel))⟩
theorem cv_X5_38 : Cv RX5 38 yX5_begin cX5_begin 1 (Option.none : Option FieldType) 0 := ⟨cb_X5_begin, (tb_in 584 (by decide +kernel) (by decide +kernel)), (tb_in 586 (by decide +kernel) (by decide +kernel)), (tb_in 7 (by decide +kernel) (by decide +kernel))⟩
theorem cv_X5_41 : Cv RX5 41 yX5_end cX5_end 3 (Option.some FieldType.long) 0 := ⟨cb_X5_end, (tb_in 588 (by decide +kernel) (by decide +kernel)), (tb_in 590 (by decide +kernel) (by decide +kernel)), (tb_in 8 (by decide +kernel) (by decide +kernel))⟩
theorem cv_X5_45 : Cv RX5 45 yX5_take cX5_take 3 (Option.none : Option FieldType) 1 := ⟨cb_X5_take, (tb_in 592 (by decide +kernel) (by decide +kernel)), (tb_in 594 (by decide +kernel) (by decide +kernel)), (tb_in 9 (by decide +kernel) (by decide +kernel))⟩
theorem cs_X5_49 : Cs RX5 49 yX5_numberOf cX5_numberOf 3 (Option.some FieldType.int) 2 := ⟨cb_X5_numberOf, (tb_in 597 (by decide +kernel) (by decide +kernel)), (tb_in 598 (by decide +kernel) (by decide +kernel))⟩
theorem cv_X5_53 : Cv RX5 53 yX5_valueOf cX5_valueOf 2 (Option.some FieldType.int) 1 := ⟨cb_X5_valueOf, (tb_in 600 (by decide +kernel) (by decide +kernel)), (tb_in 602 (by decide +kernel) (by decide +kernel)), (tb_in 10 (by decide +kernel) (by decide +kernel))⟩
theorem cs_X5_57 : Cs RX5 57 yX5_compared cX5_compared 3 (Option.some FieldType.long) 3 := ⟨cb_X5_compared, (tb_in 604 (by decide +kernel) (by decide +kernel)), (tb_in 605 (by decide +kernel) (by decide +kernel))⟩
theorem cn_X6_9 : Cn RX6 9 yX7_within cX7_within 3 (Option.some FieldType.boolean) 3 := ⟨cb_X7_within, ⟨"ReignLadders", List.mem_of_getElem? (i := 0) (by decide +kernel)⟩, (tb_in 113 (by decide +kernel) (by decide +kernel))⟩
theorem cn_X6_32 : Cn RX6 32 yX7_at cX7_at 2 (Option.some FieldType.int) 2 := ⟨cb_X7_at, ⟨"ReignLadders", List.mem_of_getElem? (i := 5) (by decide +kernel)⟩, (tb_in 306 (by decide +kernel) (by decide +kernel))⟩
theorem cn_X6_36 : Cn RX6 36 yX7_put cX7_put 3 (Option.none : Option FieldType) 3 := ⟨cb_X7_put, ⟨"ReignLadders", List.mem_of_getElem? (i := 4) (by decide +kernel)⟩, (tb_in 332 (by decide +kernel) (by decide +kernel))⟩
theorem cv_X6_40 : Cv RX6 40 yX6_add cX6_add 9 (Option.some FieldType.int) 7 := ⟨cb_X6_add, (tb_in 429 (by decide +kernel) (by decide +kernel)), (tb_in 410 (by decide +kernel) (by decide +kernel)), (tb_in 411 (by decide +kernel) (by decide +kernel))⟩
theorem cv_X6_44 : Cv RX6 44 yX6_fact cX6_fact 3 (Option.some FieldType.int) 2 := ⟨cb_X6_fact, (tb_in 467 (by decide +kernel) (by decide +kernel)), (tb_in 451 (by decide +kernel) (by decide +kernel)), (tb_in 452 (by decide +kernel) (by decide +kernel))⟩
theorem cv_X6_48 : Cv RX6 48 yX3_isKnown cX3_isKnown 3 (Option.some FieldType.boolean) 2 := ⟨cb_X3_isKnown, (tb_in 668 (by decide +kernel) (by decide +kernel)), (tb_in 309 (by decide +kernel) (by decide +kernel)), (tb_in 310 (by decide +kernel) (by decide +kernel))⟩
theorem cv_X6_54 : Cv RX6 54 yX3_toldYear cX3_toldYear 2 (Option.some FieldType.int) 1 := ⟨cb_X3_toldYear, (tb_in 854 (by decide +kernel) (by decide +kernel)), (tb_in 837 (by decide +kernel) (by decide +kernel)), (tb_in 838 (by decide +kernel) (by decide +kernel))⟩
theorem cv_X6_58 : Cv RX6 58 yX6_shift cX6_shift 2 (Option.some FieldType.int) 1 := ⟨cb_X6_shift, (tb_in 855 (by decide +kernel) (by decide +kernel)), (tb_in 695 (by decide +kernel) (by decide +kernel)), (tb_in 696 (by decide +kernel) (by decide +kernel))⟩
theorem cs_X6_61 : Cs RX6 61 yJ_abs cJ_abs 1 (Option.some FieldType.int) 1 := ⟨cb_J_abs, (tb_in 856 (by decide +kernel) (by decide +kernel)), (tb_in 857 (by decide +kernel) (by decide +kernel))⟩
theorem cv_X6_66 : Cv RX6 66 yX6_beginning cX6_beginning 3 (Option.some FieldType.int) 2 := ⟨cb_X6_beginning, (tb_in 859 (by decide +kernel) (by decide +kernel)), (tb_in 699 (by decide +kernel) (by decide +kernel)), (tb_in 700 (by decide +kernel) (by decide +kernel))⟩
theorem cv_X6_71 : Cv RX6 71 yX6_year cX6_year 3 (Option.some FieldType.int) 2 := ⟨cb_X6_year, (tb_in 879 (by decide +kernel) (by decide +kernel)), (tb_in 880 (by decide +kernel) (by decide +kernel)), (tb_in 881 (by decide +kernel) (by decide +kernel))⟩
theorem cv_L_13 : Cv RL 13 yX7_reign cX7_reign 7 (Option.some FieldType.int) 5 := ⟨cb_X7_reign, (tb_in 296 (by decide +kernel) (by decide +kernel)), (tb_in 297 (by decide +kernel) (by decide +kernel)), (tb_in 298 (by decide +kernel) (by decide +kernel))⟩
theorem cv_L_17 : Cv RL 17 yX8_reign cX8_reign 9 (Option.some FieldType.int) 5 := ⟨cb_X8_reign, (tb_in 1011 (by decide +kernel) (by decide +kernel)), (tb_in 1012 (by decide +kernel) (by decide +kernel)), (tb_in 1013 (by decide +kernel) (by decide +kernel))⟩
theorem cv_L_18 : Cv RL 18 yX7_about cX7_about 3 (Option.some FieldType.int) 2 := ⟨cb_X7_about, (tb_in 335 (by decide +kernel) (by decide +kernel)), (tb_in 336 (by decide +kernel) (by decide +kernel)), (tb_in 337 (by decide +kernel) (by decide +kernel))⟩
theorem cv_L_22 : Cv RL 22 yX8_about cX8_about 3 (Option.some FieldType.int) 2 := ⟨cb_X8_about, (tb_in 1028 (by decide +kernel) (by decide +kernel)), (tb_in 1029 (by decide +kernel) (by decide +kernel)), (tb_in 1030 (by decide +kernel) (by decide +kernel))⟩
theorem cv_L_23 : Cv RL 23 yX7_as cX7_as 3 (Option.some FieldType.int) 2 := ⟨cb_X7_as, (tb_in 341 (by decide +kernel) (by decide +kernel)), (tb_in 342 (by decide +kernel) (by decide +kernel)), (tb_in 343 (by decide +kernel) (by decide +kernel))⟩
theorem cv_L_26 : Cv RL 26 yX8_as cX8_as 3 (Option.some FieldType.int) 2 := ⟨cb_X8_as, (tb_in 1040 (by decide +kernel) (by decide +kernel)), (tb_in 1041 (by decide +kernel) (by decide +kernel)), (tb_in 1042 (by decide +kernel) (by decide +kernel))⟩
theorem cv_L_27 : Cv RL 27 yX7_lasts cX7_lasts 4 (Option.some FieldType.int) 3 := ⟨cb_X7_lasts, (tb_in 346 (by decide +kernel) (by decide +kernel)), (tb_in 347 (by decide +kernel) (by decide +kernel)), (tb_in 348 (by decide +kernel) (by decide +kernel))⟩
theorem cv_L_31 : Cv RL 31 yX8_lasts cX8_lasts 4 (Option.some FieldType.int) 3 := ⟨cb_X8_lasts, (tb_in 1044 (by decide +kernel) (by decide +kernel)), (tb_in 1045 (by decide +kernel) (by decide +kernel)), (tb_in 1046 (by decide +kernel) (by decide +kernel))⟩
theorem cv_L_32 : Cv RL 32 yX7_number cX7_number 3 (Option.some FieldType.int) 2 := ⟨cb_X7_number, (tb_in 382 (by decide +kernel) (by decide +kernel)), (tb_in 383 (by decide +kernel) (by decide +kernel)), (tb_in 384 (by decide +kernel) (by decide +kernel))⟩
theorem cv_L_35 : Cv RL 35 yX8_number cX8_number 4 (Option.some FieldType.int) 2 := ⟨cb_X8_number, (tb_in 1064 (by decide +kernel) (by decide +kernel)), (tb_in 1065 (by decide +kernel) (by decide +kernel)), (tb_in 1066 (by decide +kernel) (by decide +kernel))⟩
theorem cv_L_36 : Cv RL 36 yX7_tie cX7_tie 7 (Option.some FieldType.int) 6 := ⟨cb_X7_tie, (tb_in 394 (by decide +kernel) (by decide +kernel)), (tb_in 395 (by decide +kernel) (by decide +kernel)), (tb_in 396 (by decide +kernel) (by decide +kernel))⟩
theorem cv_L_40 : Cv RL 40 yX8_tie cX8_tie 7 (Option.some FieldType.int) 6 := ⟨cb_X8_tie, (tb_in 1068 (by decide +kernel) (by decide +kernel)), (tb_in 1069 (by decide +kernel) (by decide +kernel)), (tb_in 1070 (by decide +kernel) (by decide +kernel))⟩
theorem cv_L_41 : Cv RL 41 yX7_sky cX7_sky 7 (Option.some FieldType.int) 6 := ⟨cb_X7_sky, (tb_in 414 (by decide +kernel) (by decide +kernel)), (tb_in 415 (by decide +kernel) (by decide +kernel)), (tb_in 416 (by decide +kernel) (by decide +kernel))⟩
theorem cv_L_44 : Cv RL 44 yX8_sky cX8_sky 9 (Option.some FieldType.int) 6 := ⟨cb_X8_sky, (tb_in 1079 (by decide +kernel) (by decide +kernel)), (tb_in 1080 (by decide +kernel) (by decide +kernel)), (tb_in 1081 (by decide +kernel) (by decide +kernel))⟩
theorem cv_L_45 : Cv RL 45 yX7_ring cX7_ring 5 (Option.some FieldType.int) 4 := ⟨cb_X7_ring, (tb_in 430 (by decide +kernel) (by decide +kernel)), (tb_in 431 (by decide +kernel) (by decide +kernel)), (tb_in 432 (by decide +kernel) (by decide +kernel))⟩
theorem cv_L_49 : Cv RL 49 yX8_ring cX8_ring 6 (Option.some FieldType.int) 4 := ⟨cb_X8_ring, (tb_in 1086 (by decide +kernel) (by decide +kernel)), (tb_in 1087 (by decide +kernel) (by decide +kernel)), (tb_in 1088 (by decide +kernel) (by decide +kernel))⟩
theorem cv_L_50 : Cv RL 50 yX7_letter cX7_letter 6 (Option.some FieldType.int) 5 := ⟨cb_X7_letter, (tb_in 438 (by decide +kernel) (by decide +kernel)), (tb_in 439 (by decide +kernel) (by decide +kernel)), (tb_in 440 (by decide +kernel) (by decide +kernel))⟩
theorem cv_L_53 : Cv RL 53 yX8_letter cX8_letter 6 (Option.some FieldType.int) 5 := ⟨cb_X8_letter, (tb_in 1090 (by decide +kernel) (by decide +kernel)), (tb_in 1091 (by decide +kernel) (by decide +kernel)), (tb_in 1092 (by decide +kernel) (by decide +kernel))⟩
theorem cv_L_54 : Cv RL 54 yX7_tied cX7_tied 3 (Option.some FieldType.int) 2 := ⟨cb_X7_tied, (tb_in 442 (by decide +kernel) (by decide +kernel)), (tb_in 443 (by decide +kernel) (by decide +kernel)), (tb_in 444 (by decide +kernel) (by decide +kernel))⟩
theorem cv_L_57 : Cv RL 57 yX8_tied cX8_tied 3 (Option.some FieldType.int) 2 := ⟨cb_X8_tied, (tb_in 1094 (by decide +kernel) (by decide +kernel)), (tb_in 1095 (by decide +kernel) (by decide +kernel)), (tb_in 1096 (by decide +kernel) (by decide +kernel))⟩
theorem cv_L_58 : Cv RL 58 yX7_undo cX7_undo 1 (Option.some FieldType.int) 0 := ⟨cb_X7_undo, (tb_in 455 (by decide +kernel) (by decide +kernel)), (tb_in 456 (by decide +kernel) (by decide +kernel)), (tb_in 457 (by decide +kernel) (by decide +kernel))⟩
theorem cv_L_62 : Cv RL 62 yX8_undo cX8_undo 1 (Option.some FieldType.int) 0 := ⟨cb_X8_undo, (tb_in 1102 (by decide +kernel) (by decide +kernel)), (tb_in 1103 (by decide +kernel) (by decide +kernel)), (tb_in 1104 (by decide +kernel) (by decide +kernel))⟩
theorem cv_L_65 : Cv RL 65 yX7_letters cX7_letters 4 (Option.some FieldType.int) 1 := ⟨cb_X7_letters, (tb_in 468 (by decide +kernel) (by decide +kernel)), (tb_in 469 (by decide +kernel) (by decide +kernel)), (tb_in 470 (by decide +kernel) (by decide +kernel))⟩
theorem cv_L_69 : Cv RL 69 yX8_letters cX8_letters 7 (Option.some FieldType.int) 1 := ⟨cb_X8_letters, (tb_in 1106 (by decide +kernel) (by decide +kernel)), (tb_in 1107 (by decide +kernel) (by decide +kernel)), (tb_in 1108 (by decide +kernel) (by decide +kernel))⟩
theorem cv_L_70 : Cv RL 70 yX7_blank cX7_blank 1 (Option.some FieldType.int) 0 := ⟨cb_X7_blank, (tb_in 488 (by decide +kernel) (by decide +kernel)), (tb_in 489 (by decide +kernel) (by decide +kernel)), (tb_in 490 (by decide +kernel) (by decide +kernel))⟩
theorem cv_L_73 : Cv RL 73 yX8_blank cX8_blank 2 (Option.some FieldType.int) 0 := ⟨cb_X8_blank, (tb_in 1111 (by decide +kernel) (by decide +kernel)), (tb_in 1112 (by decide +kernel) (by decide +kernel)), (tb_in 1113 (by decide +kernel) (by decide +kernel))⟩
theorem cv_L_74 : Cv RL 74 yX7_fault cX7_fault 1 (Option.some FieldType.int) 0 := ⟨cb_X7_fault, (tb_in 496 (by decide +kernel) (by decide +kernel)), (tb_in 497 (by decide +kernel) (by decide +kernel)), (tb_in 498 (by decide +kernel) (by decide +kernel))⟩
theorem cv_L_77 : Cv RL 77 yX8_fault cX8_fault 1 (Option.some FieldType.int) 0 := ⟨cb_X8_fault, (tb_in 1115 (by decide +kernel) (by decide +kernel)), (tb_in 1116 (by decide +kernel) (by decide +kernel)), (tb_in 1117 (by decide +kernel) (by decide +kernel))⟩
theorem cv_L_78 : Cv RL 78 yX7_text cX7_text 3 (Option.some FieldType.int) 1 := ⟨cb_X7_text, (tb_in 523 (by decide +kernel) (by decide +kernel)), (tb_in 524 (by decide +kernel) (by decide +kernel)), (tb_in 525 (by decide +kernel) (by decide +kernel))⟩
theorem cv_L_82 : Cv RL 82 yX8_text cX8_text 4 (Option.some FieldType.int) 1 := ⟨cb_X8_text, (tb_in 1130 (by decide +kernel) (by decide +kernel)), (tb_in 1131 (by decide +kernel) (by decide +kernel)), (tb_in 1132 (by decide +kernel) (by decide +kernel))⟩
theorem cv_L_83 : Cv RL 83 yX7_strike cX7_strike 2 (Option.some FieldType.int) 1 := ⟨cb_X7_strike, (tb_in 550 (by decide +kernel) (by decide +kernel)), (tb_in 551 (by decide +kernel) (by decide +kernel)), (tb_in 552 (by decide +kernel) (by decide +kernel))⟩
theorem cv_L_86 : Cv RL 86 yX8_strike cX8_strike 2 (Option.some FieldType.int) 1 := ⟨cb_X8_strike, (tb_in 1137 (by decide +kernel) (by decide +kernel)), (tb_in 1138 (by decide +kernel) (by decide +kernel)), (tb_in 1139 (by decide +kernel) (by decide +kernel))⟩
theorem cv_L_87 : Cv RL 87 yX7_counts cX7_counts 3 (Option.some FieldType.int) 2 := ⟨cb_X7_counts, (tb_in 562 (by decide +kernel) (by decide +kernel)), (tb_in 563 (by decide +kernel) (by decide +kernel)), (tb_in 564 (by decide +kernel) (by decide +kernel))⟩
theorem cv_L_90 : Cv RL 90 yX8_counts cX8_counts 3 (Option.some FieldType.int) 2 := ⟨cb_X8_counts, (tb_in 1141 (by decide +kernel) (by decide +kernel)), (tb_in 1142 (by decide +kernel) (by decide +kernel)), (tb_in 1143 (by decide +kernel) (by decide +kernel))⟩
theorem cv_L_91 : Cv RL 91 yX7_believes cX7_believes 3 (Option.some FieldType.int) 2 := ⟨cb_X7_believes, (tb_in 607 (by decide +kernel) (by decide +kernel)), (tb_in 608 (by decide +kernel) (by decide +kernel)), (tb_in 609 (by decide +kernel) (by decide +kernel))⟩
theorem cv_L_94 : Cv RL 94 yX8_believes cX8_believes 3 (Option.some FieldType.int) 2 := ⟨cb_X8_believes, (tb_in 1168 (by decide +kernel) (by decide +kernel)), (tb_in 1169 (by decide +kernel) (by decide +kernel)), (tb_in 1170 (by decide +kernel) (by decide +kernel))⟩
theorem cv_L_95 : Cv RL 95 yX7_can cX7_can 4 (Option.some FieldType.int) 2 := ⟨cb_X7_can, (tb_in 615 (by decide +kernel) (by decide +kernel)), (tb_in 616 (by decide +kernel) (by decide +kernel)), (tb_in 617 (by decide +kernel) (by decide +kernel))⟩
theorem cv_L_98 : Cv RL 98 yX8_can cX8_can 3 (Option.some FieldType.int) 2 := ⟨cb_X8_can, (tb_in 1176 (by decide +kernel) (by decide +kernel)), (tb_in 1177 (by decide +kernel) (by decide +kernel)), (tb_in 1178 (by decide +kernel) (by decide +kernel))⟩
theorem cv_L_99 : Cv RL 99 yX7_span cX7_span 6 (Option.some FieldType.int) 4 := ⟨cb_X7_span, (tb_in 740 (by decide +kernel) (by decide +kernel)), (tb_in 741 (by decide +kernel) (by decide +kernel)), (tb_in 742 (by decide +kernel) (by decide +kernel))⟩
theorem cv_L_102 : Cv RL 102 yX8_span cX8_span 5 (Option.some FieldType.int) 4 := ⟨cb_X8_span, (tb_in 1218 (by decide +kernel) (by decide +kernel)), (tb_in 1219 (by decide +kernel) (by decide +kernel)), (tb_in 1220 (by decide +kernel) (by decide +kernel))⟩
theorem cv_L_103 : Cv RL 103 yX7_held cX7_held 6 (Option.some FieldType.int) 4 := ⟨cb_X7_held, (tb_in 748 (by decide +kernel) (by decide +kernel)), (tb_in 749 (by decide +kernel) (by decide +kernel)), (tb_in 750 (by decide +kernel) (by decide +kernel))⟩
theorem cv_L_106 : Cv RL 106 yX8_held cX8_held 9 (Option.some FieldType.int) 4 := ⟨cb_X8_held, (tb_in 1222 (by decide +kernel) (by decide +kernel)), (tb_in 1223 (by decide +kernel) (by decide +kernel)), (tb_in 1224 (by decide +kernel) (by decide +kernel))⟩
theorem cv_L_107 : Cv RL 107 yX7_doubt cX7_doubt 5 (Option.some FieldType.int) 3 := ⟨cb_X7_doubt, (tb_in 756 (by decide +kernel) (by decide +kernel)), (tb_in 757 (by decide +kernel) (by decide +kernel)), (tb_in 758 (by decide +kernel) (by decide +kernel))⟩
theorem cv_L_110 : Cv RL 110 yX8_doubt cX8_doubt 10 (Option.some FieldType.int) 3 := ⟨cb_X8_doubt, (tb_in 1226 (by decide +kernel) (by decide +kernel)), (tb_in 1227 (by decide +kernel) (by decide +kernel)), (tb_in 1228 (by decide +kernel) (by decide +kernel))⟩
theorem cv_L_111 : Cv RL 111 yX7_floats cX7_floats 4 (Option.some FieldType.int) 2 := ⟨cb_X7_floats, (tb_in 770 (by decide +kernel) (by decide +kernel)), (tb_in 771 (by decide +kernel) (by decide +kernel)), (tb_in 772 (by decide +kernel) (by decide +kernel))⟩
theorem cv_L_114 : Cv RL 114 yX8_floats cX8_floats 3 (Option.some FieldType.int) 2 := ⟨cb_X8_floats, (tb_in 1233 (by decide +kernel) (by decide +kernel)), (tb_in 1234 (by decide +kernel) (by decide +kernel)), (tb_in 1235 (by decide +kernel) (by decide +kernel))⟩
theorem cv_L_115 : Cv RL 115 yX7_open cX7_open 4 (Option.some FieldType.int) 2 := ⟨cb_X7_open, (tb_in 791 (by decide +kernel) (by decide +kernel)), (tb_in 792 (by decide +kernel) (by decide +kernel)), (tb_in 793 (by decide +kernel) (by decide +kernel))⟩
theorem cv_L_118 : Cv RL 118 yX8_open cX8_open 3 (Option.some FieldType.int) 2 := ⟨cb_X8_open, (tb_in 1241 (by decide +kernel) (by decide +kernel)), (tb_in 1242 (by decide +kernel) (by decide +kernel)), (tb_in 1243 (by decide +kernel) (by decide +kernel))⟩
theorem cv_L_119 : Cv RL 119 yX7_part cX7_part 1 (Option.some FieldType.int) 0 := ⟨cb_X7_part, (tb_in 800 (by decide +kernel) (by decide +kernel)), (tb_in 801 (by decide +kernel) (by decide +kernel)), (tb_in 802 (by decide +kernel) (by decide +kernel))⟩
theorem cv_L_122 : Cv RL 122 yX8_part cX8_part 2 (Option.some FieldType.int) 0 := ⟨cb_X8_part, (tb_in 1249 (by decide +kernel) (by decide +kernel)), (tb_in 1250 (by decide +kernel) (by decide +kernel)), (tb_in 1251 (by decide +kernel) (by decide +kernel))⟩
theorem cv_L_123 : Cv RL 123 yX7_wish cX7_wish 6 (Option.some FieldType.int) 5 := ⟨cb_X7_wish, (tb_in 812 (by decide +kernel) (by decide +kernel)), (tb_in 813 (by decide +kernel) (by decide +kernel)), (tb_in 814 (by decide +kernel) (by decide +kernel))⟩
theorem cv_L_126 : Cv RL 126 yX8_wish cX8_wish 6 (Option.some FieldType.int) 5 := ⟨cb_X8_wish, (tb_in 1253 (by decide +kernel) (by decide +kernel)), (tb_in 1254 (by decide +kernel) (by decide +kernel)), (tb_in 1255 (by decide +kernel) (by decide +kernel))⟩
theorem cv_L_127 : Cv RL 127 yX7_closes cX7_closes 6 (Option.some FieldType.int) 3 := ⟨cb_X7_closes, (tb_in 816 (by decide +kernel) (by decide +kernel)), (tb_in 817 (by decide +kernel) (by decide +kernel)), (tb_in 818 (by decide +kernel) (by decide +kernel))⟩
theorem cv_L_130 : Cv RL 130 yX8_closes cX8_closes 4 (Option.some FieldType.int) 3 := ⟨cb_X8_closes, (tb_in 1257 (by decide +kernel) (by decide +kernel)), (tb_in 1258 (by decide +kernel) (by decide +kernel)), (tb_in 1259 (by decide +kernel) (by decide +kernel))⟩
theorem cv_L_131 : Cv RL 131 yX7_best cX7_best 10 (Option.some FieldType.int) 2 := ⟨cb_X7_best, (tb_in 824 (by decide +kernel) (by decide +kernel)), (tb_in 825 (by decide +kernel) (by decide +kernel)), (tb_in 826 (by decide +kernel) (by decide +kernel))⟩
theorem cv_L_134 : Cv RL 134 yX8_best cX8_best 7 (Option.some FieldType.int) 2 := ⟨cb_X8_best, (tb_in 1265 (by decide +kernel) (by decide +kernel)), (tb_in 1266 (by decide +kernel) (by decide +kernel)), (tb_in 1267 (by decide +kernel) (by decide +kernel))⟩
theorem cv_L_135 : Cv RL 135 yX7_tell cX7_tell 3 (Option.some FieldType.int) 2 := ⟨cb_X7_tell, (tb_in 828 (by decide +kernel) (by decide +kernel)), (tb_in 829 (by decide +kernel) (by decide +kernel)), (tb_in 830 (by decide +kernel) (by decide +kernel))⟩
theorem cv_L_138 : Cv RL 138 yX8_tell cX8_tell 4 (Option.some FieldType.int) 2 := ⟨cb_X8_tell, (tb_in 1269 (by decide +kernel) (by decide +kernel)), (tb_in 1270 (by decide +kernel) (by decide +kernel)), (tb_in 1271 (by decide +kernel) (by decide +kernel))⟩
theorem cv_L_139 : Cv RL 139 yX7_judge cX7_judge 4 (Option.some FieldType.int) 1 := ⟨cb_X7_judge, (tb_in 840 (by decide +kernel) (by decide +kernel)), (tb_in 841 (by decide +kernel) (by decide +kernel)), (tb_in 842 (by decide +kernel) (by decide +kernel))⟩
theorem cv_L_142 : Cv RL 142 yX8_judge cX8_judge 5 (Option.some FieldType.int) 1 := ⟨cb_X8_judge, (tb_in 1273 (by decide +kernel) (by decide +kernel)), (tb_in 1274 (by decide +kernel) (by decide +kernel)), (tb_in 1275 (by decide +kernel) (by decide +kernel))⟩
theorem cv_L_143 : Cv RL 143 yX7_count cX7_count 2 (Option.some FieldType.int) 1 := ⟨cb_X7_count, (tb_in 860 (by decide +kernel) (by decide +kernel)), (tb_in 861 (by decide +kernel) (by decide +kernel)), (tb_in 862 (by decide +kernel) (by decide +kernel))⟩
theorem cv_L_146 : Cv RL 146 yX8_count cX8_count 2 (Option.some FieldType.int) 1 := ⟨cb_X8_count, (tb_in 1285 (by decide +kernel) (by decide +kernel)), (tb_in 1286 (by decide +kernel) (by decide +kernel)), (tb_in 1287 (by decide +kernel) (by decide +kernel))⟩
theorem cv_L_147 : Cv RL 147 yX7_digest cX7_digest 4 (Option.some FieldType.long) 0 := ⟨cb_X7_digest, (tb_in 864 (by decide +kernel) (by decide +kernel)), (tb_in 865 (by decide +kernel) (by decide +kernel)), (tb_in 866 (by decide +kernel) (by decide +kernel))⟩
theorem cv_L_151 : Cv RL 151 yX8_digest cX8_digest 3 (Option.some FieldType.long) 0 := ⟨cb_X8_digest, (tb_in 1293 (by decide +kernel) (by decide +kernel)), (tb_in 1294 (by decide +kernel) (by decide +kernel)), (tb_in 1295 (by decide +kernel) (by decide +kernel))⟩
theorem cs_X8_88 : Cs RX8 88 yX8_lies cX8_lies 3 (Option.some FieldType.boolean) 3 := ⟨cb_X8_lies, (tb_in 1015 (by decide +kernel) (by decide +kernel)), (tb_in 1016 (by decide +kernel) (by decide +kernel))⟩
theorem cs_X8_92 : Cs RX8 92 yX8_isEdition cX8_isEdition 1 (Option.some FieldType.boolean) 1 := ⟨cb_X8_isEdition, (tb_in 1018 (by decide +kernel) (by decide +kernel)), (tb_in 1019 (by decide +kernel) (by decide +kernel))⟩
theorem cv_X8_96 : Cv RX8 96 yX8_lastOf cX8_lastOf 4 (Option.some FieldType.int) 1 := ⟨cb_X8_lastOf, (tb_in 1021 (by decide +kernel) (by decide +kernel)), (tb_in 1023 (by decide +kernel) (by decide +kernel)), (tb_in 29 (by decide +kernel) (by decide +kernel))⟩
theorem cs_X8_100 : Cs RX8 100 yX8_isMisread cX8_isMisread 1 (Option.some FieldType.boolean) 1 := ⟨cb_X8_isMisread, (tb_in 1025 (by decide +kernel) (by decide +kernel)), (tb_in 1026 (by decide +kernel) (by decide +kernel))⟩
theorem cv_X8_103 : Cv RX8 103 yX8_isReign cX8_isReign 2 (Option.some FieldType.boolean) 1 := ⟨cb_X8_isReign, (tb_in 1032 (by decide +kernel) (by decide +kernel)), (tb_in 1034 (by decide +kernel) (by decide +kernel)), (tb_in 30 (by decide +kernel) (by decide +kernel))⟩
theorem cv_X8_106 : Cv RX8 106 yX8_aboutOf cX8_aboutOf 3 (Option.some FieldType.int) 2 := ⟨cb_X8_aboutOf, (tb_in 1036 (by decide +kernel) (by decide +kernel)), (tb_in 1038 (by decide +kernel) (by decide +kernel)), (tb_in 31 (by decide +kernel) (by decide +kernel))⟩
theorem cv_X8_110 : Cv RX8 110 yX8_otherLength cX8_otherLength 4 (Option.some FieldType.int) 2 := ⟨cb_X8_otherLength, (tb_in 1052 (by decide +kernel) (by decide +kernel)), (tb_in 1054 (by decide +kernel) (by decide +kernel)), (tb_in 33 (by decide +kernel) (by decide +kernel))⟩
theorem cv_X8_113 : Cv RX8 113 yX8_mostOf cX8_mostOf 5 (Option.some FieldType.int) 2 := ⟨cb_X8_mostOf, (tb_in 1056 (by decide +kernel) (by decide +kernel)), (tb_in 1058 (by decide +kernel) (by decide +kernel)), (tb_in 34 (by decide +kernel) (by decide +kernel))⟩
theorem cv_X8_116 : Cv RX8 116 yX8_leastOf cX8_leastOf 5 (Option.some FieldType.int) 2 := ⟨cb_X8_leastOf, (tb_in 1048 (by decide +kernel) (by decide +kernel)), (tb_in 1050 (by decide +kernel) (by decide +kernel)), (tb_in 32 (by decide +kernel) (by decide +kernel))⟩
theorem cv_X8_119 : Cv RX8 119 yX8_lengthsOf cX8_lengthsOf 4 (Option.some FieldType.int) 2 := ⟨cb_X8_lengthsOf, (tb_in 1060 (by decide +kernel) (by decide +kernel)), (tb_in 1062 (by decide +kernel) (by decide +kernel)), (tb_in 35 (by decide +kernel) (by decide +kernel))⟩
theorem cs_X8_125 : Cs RX8 125 yX8_isXth cX8_isXth 1 (Option.some FieldType.boolean) 1 := ⟨cb_X8_isXth, (tb_in 1072 (by decide +kernel) (by decide +kernel)), (tb_in 1073 (by decide +kernel) (by decide +kernel))⟩
theorem cv_X8_128 : Cv RX8 128 yX8_come cX8_come 8 (Option.some FieldType.int) 7 := ⟨cb_X8_come, (tb_in 1075 (by decide +kernel) (by decide +kernel)), (tb_in 1077 (by decide +kernel) (by decide +kernel)), (tb_in 36 (by decide +kernel) (by decide +kernel))⟩
theorem cs_X8_132 : Cs RX8 132 yX8_isYear cX8_isYear 1 (Option.some FieldType.boolean) 1 := ⟨cb_X8_isYear, (tb_in 1083 (by decide +kernel) (by decide +kernel)), (tb_in 1084 (by decide +kernel) (by decide +kernel))⟩
theorem cv_X8_135 : Cv RX8 135 yX8_isTie cX8_isTie 2 (Option.some FieldType.boolean) 1 := ⟨cb_X8_isTie, (tb_in 1098 (by decide +kernel) (by decide +kernel)), (tb_in 1100 (by decide +kernel) (by decide +kernel)), (tb_in 37 (by decide +kernel) (by decide +kernel))⟩
theorem cs_X8_143 : Cs RX8 143 yX8_isName cX8_isName 1 (Option.some FieldType.boolean) 1 := ⟨cb_X8_isName, (tb_in 1127 (by decide +kernel) (by decide +kernel)), (tb_in 1128 (by decide +kernel) (by decide +kernel))⟩
theorem cv_X8_146 : Cv RX8 146 yX8_next cX8_next 5 (Option.some FieldType.int) 3 := ⟨cb_X8_next, (tb_in 1123 (by decide +kernel) (by decide +kernel)), (tb_in 1125 (by decide +kernel) (by decide +kernel)), (tb_in 39 (by decide +kernel) (by decide +kernel))⟩
theorem cv_X8_157 : Cv RX8 157 yX8_readText cX8_readText 6 (Option.none : Option FieldType) 0 := ⟨cb_X8_readText, (tb_in 1119 (by decide +kernel) (by decide +kernel)), (tb_in 1121 (by decide +kernel) (by decide +kernel)), (tb_in 38 (by decide +kernel) (by decide +kernel))⟩
theorem cs_X8_160 : Cs RX8 160 yX8_isSchool cX8_isSchool 1 (Option.some FieldType.boolean) 1 := ⟨cb_X8_isSchool, (tb_in 1134 (by decide +kernel) (by decide +kernel)), (tb_in 1135 (by decide +kernel) (by decide +kernel))⟩
theorem cv_X8_166 : Cv RX8 166 yX8_openGroup cX8_openGroup 1 (Option.none : Option FieldType) 0 := ⟨cb_X8_openGroup, (tb_in 1157 (by decide +kernel) (by decide +kernel)), (tb_in 1159 (by decide +kernel) (by decide +kernel)), (tb_in 43 (by decide +kernel) (by decide +kernel))⟩
theorem cv_X8_169 : Cv RX8 169 yX8_factor cX8_factor 2 (Option.none : Option FieldType) 1 := ⟨cb_X8_factor, (tb_in 1161 (by decide +kernel) (by decide +kernel)), (tb_in 1163 (by decide +kernel) (by decide +kernel)), (tb_in 44 (by decide +kernel) (by decide +kernel))⟩
theorem cs_X8_173 : Cs RX8 173 yX8_placeOf cX8_placeOf 1 (Option.some FieldType.int) 1 := ⟨cb_X8_placeOf, (tb_in 1165 (by decide +kernel) (by decide +kernel)), (tb_in 1166 (by decide +kernel) (by decide +kernel))⟩
theorem cv_X8_176 : Cv RX8 176 yX8_holds cX8_holds 7 (Option.some FieldType.boolean) 1 := ⟨cb_X8_holds, (tb_in 1153 (by decide +kernel) (by decide +kernel)), (tb_in 1155 (by decide +kernel) (by decide +kernel)), (tb_in 42 (by decide +kernel) (by decide +kernel))⟩
theorem cv_X8_179 : Cv RX8 179 yX8_saysOf cX8_saysOf 6 (Option.some FieldType.int) 3 := ⟨cb_X8_saysOf, (tb_in 1149 (by decide +kernel) (by decide +kernel)), (tb_in 1151 (by decide +kernel) (by decide +kernel)), (tb_in 41 (by decide +kernel) (by decide +kernel))⟩
theorem cv_X8_182 : Cv RX8 182 yX8_countsOf cX8_countsOf 3 (Option.some FieldType.int) 2 := ⟨cb_X8_countsOf, (tb_in 1145 (by decide +kernel) (by decide +kernel)), (tb_in 1147 (by decide +kernel) (by decide +kernel)), (tb_in 40 (by decide +kernel) (by decide +kernel))⟩
theorem cv_X8_185 : Cv RX8 185 yX8_believesOf cX8_believesOf 3 (Option.some FieldType.int) 2 := ⟨cb_X8_believesOf, (tb_in 1172 (by decide +kernel) (by decide +kernel)), (tb_in 1174 (by decide +kernel) (by decide +kernel)), (tb_in 45 (by decide +kernel) (by decide +kernel))⟩
theorem cv_X8_188 : Cv RX8 188 yX8_isKnown cX8_isKnown 3 (Option.some FieldType.boolean) 2 := ⟨cb_X8_isKnown, (tb_in 1184 (by decide +kernel) (by decide +kernel)), (tb_in 1186 (by decide +kernel) (by decide +kernel)), (tb_in 47 (by decide +kernel) (by decide +kernel))⟩
theorem cv_X8_193 : Cv RX8 193 yX8_bind cX8_bind 5 (Option.none : Option FieldType) 4 := ⟨cb_X8_bind, (tb_in 1197 (by decide +kernel) (by decide +kernel)), (tb_in 1199 (by decide +kernel) (by decide +kernel)), (tb_in 50 (by decide +kernel) (by decide +kernel))⟩
theorem cv_X8_197 : Cv RX8 197 yX8_misreadAhead cX8_misreadAhead 4 (Option.some FieldType.int) 1 := ⟨cb_X8_misreadAhead, (tb_in 1201 (by decide +kernel) (by decide +kernel)), (tb_in 1203 (by decide +kernel) (by decide +kernel)), (tb_in 51 (by decide +kernel) (by decide +kernel))⟩
theorem cv_X8_204 : Cv RX8 204 yX8_layChoice cX8_layChoice 10 (Option.some FieldType.boolean) 2 := ⟨cb_X8_layChoice, (tb_in 1192 (by decide +kernel) (by decide +kernel)), (tb_in 1194 (by decide +kernel) (by decide +kernel)), (tb_in 49 (by decide +kernel) (by decide +kernel))⟩
theorem cv_X8_207 : Cv RX8 207 yX8_layTie cX8_layTie 11 (Option.none : Option FieldType) 2 := ⟨cb_X8_layTie, (tb_in 1205 (by decide +kernel) (by decide +kernel)), (tb_in 1207 (by decide +kernel) (by decide +kernel)), (tb_in 52 (by decide +kernel) (by decide +kernel))⟩
theorem cv_X8_211 : Cv RX8 211 yX8_closeWays cX8_closeWays 5 (Option.some FieldType.boolean) 0 := ⟨cb_X8_closeWays, (tb_in 1210 (by decide +kernel) (by decide +kernel)), (tb_in 1212 (by decide +kernel) (by decide +kernel)), (tb_in 53 (by decide +kernel) (by decide +kernel))⟩
theorem cv_X8_215 : Cv RX8 215 yX8_take cX8_take 5 (Option.none : Option FieldType) 1 := ⟨cb_X8_take, (tb_in 1214 (by decide +kernel) (by decide +kernel)), (tb_in 1216 (by decide +kernel) (by decide +kernel)), (tb_in 54 (by decide +kernel) (by decide +kernel))⟩
theorem cv_X8_219 : Cv RX8 219 yX8_tiesOf cX8_tiesOf 6 (Option.some FieldType.int) 2 := ⟨cb_X8_tiesOf, (tb_in 1180 (by decide +kernel) (by decide +kernel)), (tb_in 1182 (by decide +kernel) (by decide +kernel)), (tb_in 46 (by decide +kernel) (by decide +kernel))⟩
theorem cv_X8_222 : Cv RX8 222 yX8_solve cX8_solve 9 (Option.none : Option FieldType) 4 := ⟨cb_X8_solve, (tb_in 1188 (by decide +kernel) (by decide +kernel)), (tb_in 1190 (by decide +kernel) (by decide +kernel)), (tb_in 48 (by decide +kernel) (by decide +kernel))⟩
theorem cs_X8_228 : Cs RX8 228 yX8_ones cX8_ones 3 (Option.some FieldType.int) 1 := ⟨cb_X8_ones, (tb_in 1230 (by decide +kernel) (by decide +kernel)), (tb_in 1231 (by decide +kernel) (by decide +kernel))⟩
theorem cv_X8_231 : Cv RX8 231 yX8_floatsOf cX8_floatsOf 9 (Option.some FieldType.int) 2 := ⟨cb_X8_floatsOf, (tb_in 1237 (by decide +kernel) (by decide +kernel)), (tb_in 1239 (by decide +kernel) (by decide +kernel)), (tb_in 55 (by decide +kernel) (by decide +kernel))⟩
theorem cv_X8_234 : Cv RX8 234 yX8_openNow cX8_openNow 4 (Option.some FieldType.int) 1 := ⟨cb_X8_openNow, (tb_in 1245 (by decide +kernel) (by decide +kernel)), (tb_in 1247 (by decide +kernel) (by decide +kernel)), (tb_in 56 (by decide +kernel) (by decide +kernel))⟩
theorem cv_X8_240 : Cv RX8 240 yX8_closesOf cX8_closesOf 6 (Option.some FieldType.int) 3 := ⟨cb_X8_closesOf, (tb_in 1261 (by decide +kernel) (by decide +kernel)), (tb_in 1263 (by decide +kernel) (by decide +kernel)), (tb_in 57 (by decide +kernel) (by decide +kernel))⟩
theorem cv_X8_243 : Cv RX8 243 yX8_mayLast cX8_mayLast 4 (Option.some FieldType.boolean) 3 := ⟨cb_X8_mayLast, (tb_in 1277 (by decide +kernel) (by decide +kernel)), (tb_in 1279 (by decide +kernel) (by decide +kernel)), (tb_in 58 (by decide +kernel) (by decide +kernel))⟩
theorem cv_X8_246 : Cv RX8 246 yX8_holdsTold cX8_holdsTold 4 (Option.some FieldType.boolean) 1 := ⟨cb_X8_holdsTold, (tb_in 1281 (by decide +kernel) (by decide +kernel)), (tb_in 1283 (by decide +kernel) (by decide +kernel)), (tb_in 59 (by decide +kernel) (by decide +kernel))⟩
theorem cv_X8_249 : Cv RX8 249 yX8_howMany cX8_howMany 2 (Option.some FieldType.int) 1 := ⟨cb_X8_howMany, (tb_in 1289 (by decide +kernel) (by decide +kernel)), (tb_in 1291 (by decide +kernel) (by decide +kernel)), (tb_in 60 (by decide +kernel) (by decide +kernel))⟩
theorem cv_X8_260 : Cv RX8 260 yX8_mix cX8_mix 3 (Option.none : Option FieldType) 1 := ⟨cb_X8_mix, (tb_in 1298 (by decide +kernel) (by decide +kernel)), (tb_in 1300 (by decide +kernel) (by decide +kernel)), (tb_in 61 (by decide +kernel) (by decide +kernel))⟩
end
