section
-- ===== PART A: goes FIRST, ahead of the names: the tables' words, and 'selects' of the private methods out of them =====
/-- a private method of a class that the tables say can be made, by its rows of tables_1 -/
def lw_okq (q : MethodName × Nat) : Prop := (q.1.cls ≠ "java/lang/invoke/MethodHandle" ∧ q.1.cls ≠ "java/lang/invoke/VarHandle") ∧ Cond.instantiable q.1.cls q.2 ∈ tables_1 ∧ Cond.privateMethod q.1 ∈ tables_1 ∧ Cond.instanceMethod q.1 ∈ tables_1
theorem lw_p0 : lw_okq (⟨"ReignLadders$Reigns", "counted", "(II)I"⟩, 5) := ⟨⟨by decide +kernel, by decide +kernel⟩, List.mem_of_getElem? (i := 22) (by decide +kernel), List.mem_of_getElem? (i := 297) (by decide +kernel), List.mem_of_getElem? (i := 298) (by decide +kernel)⟩
theorem lw_p1 : lw_okq (⟨"ReignLadders$Reigns", "otherReading", "(II)I"⟩, 5) := ⟨⟨by decide +kernel, by decide +kernel⟩, List.mem_of_getElem? (i := 22) (by decide +kernel), List.mem_of_getElem? (i := 301) (by decide +kernel), List.mem_of_getElem? (i := 302) (by decide +kernel)⟩
theorem lw_p2 : lw_okq (⟨"ReignLadders", "arePair", "(II)Z"⟩, 9) := ⟨⟨by decide +kernel, by decide +kernel⟩, List.mem_of_getElem? (i := 14) (by decide +kernel), List.mem_of_getElem? (i := 337) (by decide +kernel), List.mem_of_getElem? (i := 338) (by decide +kernel)⟩
theorem lw_p3 : lw_okq (⟨"ReignLadders$Page", "after", "(I)I"⟩, 4) := ⟨⟨by decide +kernel, by decide +kernel⟩, List.mem_of_getElem? (i := 114) (by decide +kernel), List.mem_of_getElem? (i := 448) (by decide +kernel), List.mem_of_getElem? (i := 449) (by decide +kernel)⟩
theorem lw_p4 : lw_okq (⟨"ReignLadders$Page", "afterFactorEnds", "(I)I"⟩, 4) := ⟨⟨by decide +kernel, by decide +kernel⟩, List.mem_of_getElem? (i := 114) (by decide +kernel), List.mem_of_getElem? (i := 458) (by decide +kernel), List.mem_of_getElem? (i := 459) (by decide +kernel)⟩
theorem lw_p5 : lw_okq (⟨"ReignLadders", "schoolOf", "(I)LReignLadders$School;"⟩, 9) := ⟨⟨by decide +kernel, by decide +kernel⟩, List.mem_of_getElem? (i := 14) (by decide +kernel), List.mem_of_getElem? (i := 474) (by decide +kernel), List.mem_of_getElem? (i := 475) (by decide +kernel)⟩
theorem lw_p6 : lw_okq (⟨"ReignLadders", "countFor", "(II)I"⟩, 9) := ⟨⟨by decide +kernel, by decide +kernel⟩, List.mem_of_getElem? (i := 14) (by decide +kernel), List.mem_of_getElem? (i := 505) (by decide +kernel), List.mem_of_getElem? (i := 506) (by decide +kernel)⟩
theorem lw_p7 : lw_okq (⟨"ReignLadders$Subject", "begin", "()V"⟩, 7) := ⟨⟨by decide +kernel, by decide +kernel⟩, List.mem_of_getElem? (i := 86) (by decide +kernel), List.mem_of_getElem? (i := 523) (by decide +kernel), List.mem_of_getElem? (i := 524) (by decide +kernel)⟩
theorem lw_p8 : lw_okq (⟨"ReignLadders$Subject", "end", "()J"⟩, 7) := ⟨⟨by decide +kernel, by decide +kernel⟩, List.mem_of_getElem? (i := 86) (by decide +kernel), List.mem_of_getElem? (i := 527) (by decide +kernel), List.mem_of_getElem? (i := 528) (by decide +kernel)⟩
theorem lw_p9 : lw_okq (⟨"ReignLadders$Subject", "take", "(J)V"⟩, 7) := ⟨⟨by decide +kernel, by decide +kernel⟩, List.mem_of_getElem? (i := 86) (by decide +kernel), List.mem_of_getElem? (i := 531) (by decide +kernel), List.mem_of_getElem? (i := 532) (by decide +kernel)⟩
theorem lw_p10 : lw_okq (⟨"ReignLadders$Subject", "valueOf", "(I)I"⟩, 7) := ⟨⟨by decide +kernel, by decide +kernel⟩, List.mem_of_getElem? (i := 86) (by decide +kernel), List.mem_of_getElem? (i := 539) (by decide +kernel), List.mem_of_getElem? (i := 540) (by decide +kernel)⟩
theorem lw_p11 : lw_okq (⟨"ReignLadders", "beliefFor", "(II)I"⟩, 9) := ⟨⟨by decide +kernel, by decide +kernel⟩, List.mem_of_getElem? (i := 14) (by decide +kernel), List.mem_of_getElem? (i := 550) (by decide +kernel), List.mem_of_getElem? (i := 551) (by decide +kernel)⟩
theorem lw_p12 : lw_okq (⟨"ReignLadders", "lay", "(II)I"⟩, 9) := ⟨⟨by decide +kernel, by decide +kernel⟩, List.mem_of_getElem? (i := 14) (by decide +kernel), List.mem_of_getElem? (i := 561) (by decide +kernel), List.mem_of_getElem? (i := 562) (by decide +kernel)⟩
theorem lw_p13 : lw_okq (⟨"ReignLadders$Ladders", "layBehind", "(III)V"⟩, 18) := ⟨⟨by decide +kernel, by decide +kernel⟩, List.mem_of_getElem? (i := 133) (by decide +kernel), List.mem_of_getElem? (i := 582) (by decide +kernel), List.mem_of_getElem? (i := 583) (by decide +kernel)⟩
theorem lw_p14 : lw_okq (⟨"ReignLadders", "believedBy", "(II)I"⟩, 9) := ⟨⟨by decide +kernel, by decide +kernel⟩, List.mem_of_getElem? (i := 14) (by decide +kernel), List.mem_of_getElem? (i := 599) (by decide +kernel), List.mem_of_getElem? (i := 600) (by decide +kernel)⟩
theorem lw_p15 : lw_okq (⟨"ReignLadders$Ladders", "layTies", "(I)Z"⟩, 18) := ⟨⟨by decide +kernel, by decide +kernel⟩, List.mem_of_getElem? (i := 133) (by decide +kernel), List.mem_of_getElem? (i := 612) (by decide +kernel), List.mem_of_getElem? (i := 613) (by decide +kernel)⟩
def lw_privs_1 : List (MethodName × Nat) := [(⟨"ReignLadders$Reigns", "counted", "(II)I"⟩, 5), (⟨"ReignLadders$Reigns", "otherReading", "(II)I"⟩, 5), (⟨"ReignLadders", "arePair", "(II)Z"⟩, 9), (⟨"ReignLadders$Page", "after", "(I)I"⟩, 4), (⟨"ReignLadders$Page", "afterFactorEnds", "(I)I"⟩, 4), (⟨"ReignLadders", "schoolOf", "(I)LReignLadders$School;"⟩, 9), (⟨"ReignLadders", "countFor", "(II)I"⟩, 9), (⟨"ReignLadders$Subject", "begin", "()V"⟩, 7), (⟨"ReignLadders$Subject", "end", "()J"⟩, 7), (⟨"ReignLadders$Subject", "take", "(J)V"⟩, 7), (⟨"ReignLadders$Subject", "valueOf", "(I)I"⟩, 7), (⟨"ReignLadders", "beliefFor", "(II)I"⟩, 9), (⟨"ReignLadders", "lay", "(II)I"⟩, 9), (⟨"ReignLadders$Ladders", "layBehind", "(III)V"⟩, 18), (⟨"ReignLadders", "believedBy", "(II)I"⟩, 9), (⟨"ReignLadders$Ladders", "layTies", "(I)Z"⟩, 18)]
theorem lw_r1 : ∀ q ∈ lw_privs_1, lw_okq q := List.forall_mem_cons.mpr ⟨lw_p0, List.forall_mem_cons.mpr ⟨lw_p1, List.forall_mem_cons.mpr ⟨lw_p2, List.forall_mem_cons.mpr ⟨lw_p3, List.forall_mem_cons.mpr ⟨lw_p4, List.forall_mem_cons.mpr ⟨lw_p5, List.forall_mem_cons.mpr ⟨lw_p6, List.forall_mem_cons.mpr ⟨lw_p7, List.forall_mem_cons.mpr ⟨lw_p8, List.forall_mem_cons.mpr ⟨lw_p9, List.forall_mem_cons.mpr ⟨lw_p10, List.forall_mem_cons.mpr ⟨lw_p11, List.forall_mem_cons.mpr ⟨lw_p12, List.forall_mem_cons.mpr ⟨lw_p13, List.forall_mem_cons.mpr ⟨lw_p14, List.forall_mem_cons.mpr ⟨lw_p15, fun _ h => absurd h List.not_mem_nil⟩⟩⟩⟩⟩⟩⟩⟩⟩⟩⟩⟩⟩⟩⟩⟩
theorem lw_p16 : lw_okq (⟨"ReignLadders$Ladders", "layTie", "(I)Z"⟩, 18) := ⟨⟨by decide +kernel, by decide +kernel⟩, List.mem_of_getElem? (i := 133) (by decide +kernel), List.mem_of_getElem? (i := 624) (by decide +kernel), List.mem_of_getElem? (i := 625) (by decide +kernel)⟩
theorem lw_p17 : lw_okq (⟨"ReignLadders$Ladders", "layPair", "(LReignLadders$Ties;I)Z"⟩, 18) := ⟨⟨by decide +kernel, by decide +kernel⟩, List.mem_of_getElem? (i := 133) (by decide +kernel), List.mem_of_getElem? (i := 629) (by decide +kernel), List.mem_of_getElem? (i := 630) (by decide +kernel)⟩
theorem lw_p18 : lw_okq (⟨"ReignLadders$Ladders", "takeForks", "(I)Z"⟩, 18) := ⟨⟨by decide +kernel, by decide +kernel⟩, List.mem_of_getElem? (i := 133) (by decide +kernel), List.mem_of_getElem? (i := 642) (by decide +kernel), List.mem_of_getElem? (i := 643) (by decide +kernel)⟩
theorem lw_p19 : lw_okq (⟨"ReignLadders$Ladders", "tryYears", "(Z)V"⟩, 18) := ⟨⟨by decide +kernel, by decide +kernel⟩, List.mem_of_getElem? (i := 133) (by decide +kernel), List.mem_of_getElem? (i := 647) (by decide +kernel), List.mem_of_getElem? (i := 648) (by decide +kernel)⟩
theorem lw_p20 : lw_okq (⟨"ReignLadders$Ladders", "yearsOf", "(I)I"⟩, 18) := ⟨⟨by decide +kernel, by decide +kernel⟩, List.mem_of_getElem? (i := 133) (by decide +kernel), List.mem_of_getElem? (i := 651) (by decide +kernel), List.mem_of_getElem? (i := 652) (by decide +kernel)⟩
theorem lw_p21 : lw_okq (⟨"ReignLadders$Ladders", "beginning", "(II)I"⟩, 18) := ⟨⟨by decide +kernel, by decide +kernel⟩, List.mem_of_getElem? (i := 133) (by decide +kernel), List.mem_of_getElem? (i := 655) (by decide +kernel), List.mem_of_getElem? (i := 656) (by decide +kernel)⟩
theorem lw_p22 : lw_okq (⟨"ReignLadders$Ladders", "pointOf", "(I)I"⟩, 18) := ⟨⟨by decide +kernel, by decide +kernel⟩, List.mem_of_getElem? (i := 133) (by decide +kernel), List.mem_of_getElem? (i := 659) (by decide +kernel), List.mem_of_getElem? (i := 660) (by decide +kernel)⟩
theorem lw_p23 : lw_okq (⟨"ReignLadders$Ladders", "widen", "(II)V"⟩, 18) := ⟨⟨by decide +kernel, by decide +kernel⟩, List.mem_of_getElem? (i := 133) (by decide +kernel), List.mem_of_getElem? (i := 672) (by decide +kernel), List.mem_of_getElem? (i := 673) (by decide +kernel)⟩
theorem lw_p24 : lw_okq (⟨"ReignLadders", "holders", "(III)I"⟩, 9) := ⟨⟨by decide +kernel, by decide +kernel⟩, List.mem_of_getElem? (i := 14) (by decide +kernel), List.mem_of_getElem? (i := 691) (by decide +kernel), List.mem_of_getElem? (i := 692) (by decide +kernel)⟩
theorem lw_p25 : lw_okq (⟨"ReignLadders", "doubted", "(II)I"⟩, 9) := ⟨⟨by decide +kernel, by decide +kernel⟩, List.mem_of_getElem? (i := 14) (by decide +kernel), List.mem_of_getElem? (i := 699) (by decide +kernel), List.mem_of_getElem? (i := 700) (by decide +kernel)⟩
theorem lw_p26 : lw_okq (⟨"ReignLadders", "afloat", "(II)I"⟩, 9) := ⟨⟨by decide +kernel, by decide +kernel⟩, List.mem_of_getElem? (i := 14) (by decide +kernel), List.mem_of_getElem? (i := 713) (by decide +kernel), List.mem_of_getElem? (i := 714) (by decide +kernel)⟩
theorem lw_p27 : lw_okq (⟨"ReignLadders", "gain", "(IIII)I"⟩, 9) := ⟨⟨by decide +kernel, by decide +kernel⟩, List.mem_of_getElem? (i := 14) (by decide +kernel), List.mem_of_getElem? (i := 759) (by decide +kernel), List.mem_of_getElem? (i := 760) (by decide +kernel)⟩
theorem lw_p28 : lw_okq (⟨"ReignLadders", "sayingsDigest", "(JI)J"⟩, 9) := ⟨⟨by decide +kernel, by decide +kernel⟩, List.mem_of_getElem? (i := 14) (by decide +kernel), List.mem_of_getElem? (i := 822) (by decide +kernel), List.mem_of_getElem? (i := 823) (by decide +kernel)⟩
theorem lw_p29 : lw_okq (⟨"ReignLaddersModel", "lastOf", "(I)I"⟩, 34) := ⟨⟨by decide +kernel, by decide +kernel⟩, List.mem_of_getElem? (i := 839) (by decide +kernel), List.mem_of_getElem? (i := 960) (by decide +kernel), List.mem_of_getElem? (i := 961) (by decide +kernel)⟩
theorem lw_p30 : lw_okq (⟨"ReignLaddersModel", "isReign", "(I)Z"⟩, 34) := ⟨⟨by decide +kernel, by decide +kernel⟩, List.mem_of_getElem? (i := 839) (by decide +kernel), List.mem_of_getElem? (i := 971) (by decide +kernel), List.mem_of_getElem? (i := 972) (by decide +kernel)⟩
theorem lw_p31 : lw_okq (⟨"ReignLaddersModel", "aboutOf", "(II)I"⟩, 34) := ⟨⟨by decide +kernel, by decide +kernel⟩, List.mem_of_getElem? (i := 839) (by decide +kernel), List.mem_of_getElem? (i := 975) (by decide +kernel), List.mem_of_getElem? (i := 976) (by decide +kernel)⟩
def lw_privs_2 : List (MethodName × Nat) := [(⟨"ReignLadders$Ladders", "layTie", "(I)Z"⟩, 18), (⟨"ReignLadders$Ladders", "layPair", "(LReignLadders$Ties;I)Z"⟩, 18), (⟨"ReignLadders$Ladders", "takeForks", "(I)Z"⟩, 18), (⟨"ReignLadders$Ladders", "tryYears", "(Z)V"⟩, 18), (⟨"ReignLadders$Ladders", "yearsOf", "(I)I"⟩, 18), (⟨"ReignLadders$Ladders", "beginning", "(II)I"⟩, 18), (⟨"ReignLadders$Ladders", "pointOf", "(I)I"⟩, 18), (⟨"ReignLadders$Ladders", "widen", "(II)V"⟩, 18), (⟨"ReignLadders", "holders", "(III)I"⟩, 9), (⟨"ReignLadders", "doubted", "(II)I"⟩, 9), (⟨"ReignLadders", "afloat", "(II)I"⟩, 9), (⟨"ReignLadders", "gain", "(IIII)I"⟩, 9), (⟨"ReignLadders", "sayingsDigest", "(JI)J"⟩, 9), (⟨"ReignLaddersModel", "lastOf", "(I)I"⟩, 34), (⟨"ReignLaddersModel", "isReign", "(I)Z"⟩, 34), (⟨"ReignLaddersModel", "aboutOf", "(II)I"⟩, 34)]
theorem lw_r2 : ∀ q ∈ lw_privs_2, lw_okq q := List.forall_mem_cons.mpr ⟨lw_p16, List.forall_mem_cons.mpr ⟨lw_p17, List.forall_mem_cons.mpr ⟨lw_p18, List.forall_mem_cons.mpr ⟨lw_p19, List.forall_mem_cons.mpr ⟨lw_p20, List.forall_mem_cons.mpr ⟨lw_p21, List.forall_mem_cons.mpr ⟨lw_p22, List.forall_mem_cons.mpr ⟨lw_p23, List.forall_mem_cons.mpr ⟨lw_p24, List.forall_mem_cons.mpr ⟨lw_p25, List.forall_mem_cons.mpr ⟨lw_p26, List.forall_mem_cons.mpr ⟨lw_p27, List.forall_mem_cons.mpr ⟨lw_p28, List.forall_mem_cons.mpr ⟨lw_p29, List.forall_mem_cons.mpr ⟨lw_p30, List.forall_mem_cons.mpr ⟨lw_p31, fun _ h => absurd h List.not_mem_nil⟩⟩⟩⟩⟩⟩⟩⟩⟩⟩⟩⟩⟩⟩⟩⟩
theorem lw_p32 : lw_okq (⟨"ReignLaddersModel", "leastOf", "(II)I"⟩, 34) := ⟨⟨by decide +kernel, by decide +kernel⟩, List.mem_of_getElem? (i := 839) (by decide +kernel), List.mem_of_getElem? (i := 987) (by decide +kernel), List.mem_of_getElem? (i := 988) (by decide +kernel)⟩
theorem lw_p33 : lw_okq (⟨"ReignLaddersModel", "otherLength", "(II)I"⟩, 34) := ⟨⟨by decide +kernel, by decide +kernel⟩, List.mem_of_getElem? (i := 839) (by decide +kernel), List.mem_of_getElem? (i := 991) (by decide +kernel), List.mem_of_getElem? (i := 992) (by decide +kernel)⟩
theorem lw_p34 : lw_okq (⟨"ReignLaddersModel", "mostOf", "(II)I"⟩, 34) := ⟨⟨by decide +kernel, by decide +kernel⟩, List.mem_of_getElem? (i := 839) (by decide +kernel), List.mem_of_getElem? (i := 995) (by decide +kernel), List.mem_of_getElem? (i := 996) (by decide +kernel)⟩
theorem lw_p35 : lw_okq (⟨"ReignLaddersModel", "lengthsOf", "(II)I"⟩, 34) := ⟨⟨by decide +kernel, by decide +kernel⟩, List.mem_of_getElem? (i := 839) (by decide +kernel), List.mem_of_getElem? (i := 999) (by decide +kernel), List.mem_of_getElem? (i := 1000) (by decide +kernel)⟩
theorem lw_p36 : lw_okq (⟨"ReignLaddersModel", "come", "(IIIIIII)I"⟩, 34) := ⟨⟨by decide +kernel, by decide +kernel⟩, List.mem_of_getElem? (i := 839) (by decide +kernel), List.mem_of_getElem? (i := 1014) (by decide +kernel), List.mem_of_getElem? (i := 1015) (by decide +kernel)⟩
theorem lw_p37 : lw_okq (⟨"ReignLaddersModel", "isTie", "(I)Z"⟩, 34) := ⟨⟨by decide +kernel, by decide +kernel⟩, List.mem_of_getElem? (i := 839) (by decide +kernel), List.mem_of_getElem? (i := 1037) (by decide +kernel), List.mem_of_getElem? (i := 1038) (by decide +kernel)⟩
theorem lw_p38 : lw_okq (⟨"ReignLaddersModel", "readText", "()V"⟩, 34) := ⟨⟨by decide +kernel, by decide +kernel⟩, List.mem_of_getElem? (i := 839) (by decide +kernel), List.mem_of_getElem? (i := 1058) (by decide +kernel), List.mem_of_getElem? (i := 1059) (by decide +kernel)⟩
theorem lw_p39 : lw_okq (⟨"ReignLaddersModel", "next", "(III)I"⟩, 34) := ⟨⟨by decide +kernel, by decide +kernel⟩, List.mem_of_getElem? (i := 839) (by decide +kernel), List.mem_of_getElem? (i := 1062) (by decide +kernel), List.mem_of_getElem? (i := 1063) (by decide +kernel)⟩
theorem lw_p40 : lw_okq (⟨"ReignLaddersModel", "countsOf", "(II)I"⟩, 34) := ⟨⟨by decide +kernel, by decide +kernel⟩, List.mem_of_getElem? (i := 839) (by decide +kernel), List.mem_of_getElem? (i := 1084) (by decide +kernel), List.mem_of_getElem? (i := 1085) (by decide +kernel)⟩
theorem lw_p41 : lw_okq (⟨"ReignLaddersModel", "saysOf", "(III)I"⟩, 34) := ⟨⟨by decide +kernel, by decide +kernel⟩, List.mem_of_getElem? (i := 839) (by decide +kernel), List.mem_of_getElem? (i := 1088) (by decide +kernel), List.mem_of_getElem? (i := 1089) (by decide +kernel)⟩
theorem lw_p42 : lw_okq (⟨"ReignLaddersModel", "holds", "(I)Z"⟩, 34) := ⟨⟨by decide +kernel, by decide +kernel⟩, List.mem_of_getElem? (i := 839) (by decide +kernel), List.mem_of_getElem? (i := 1092) (by decide +kernel), List.mem_of_getElem? (i := 1093) (by decide +kernel)⟩
theorem lw_p43 : lw_okq (⟨"ReignLaddersModel", "openGroup", "()V"⟩, 34) := ⟨⟨by decide +kernel, by decide +kernel⟩, List.mem_of_getElem? (i := 839) (by decide +kernel), List.mem_of_getElem? (i := 1096) (by decide +kernel), List.mem_of_getElem? (i := 1097) (by decide +kernel)⟩
theorem lw_p44 : lw_okq (⟨"ReignLaddersModel", "factor", "(Z)V"⟩, 34) := ⟨⟨by decide +kernel, by decide +kernel⟩, List.mem_of_getElem? (i := 839) (by decide +kernel), List.mem_of_getElem? (i := 1100) (by decide +kernel), List.mem_of_getElem? (i := 1101) (by decide +kernel)⟩
theorem lw_p45 : lw_okq (⟨"ReignLaddersModel", "believesOf", "(II)I"⟩, 34) := ⟨⟨by decide +kernel, by decide +kernel⟩, List.mem_of_getElem? (i := 839) (by decide +kernel), List.mem_of_getElem? (i := 1111) (by decide +kernel), List.mem_of_getElem? (i := 1112) (by decide +kernel)⟩
theorem lw_p46 : lw_okq (⟨"ReignLaddersModel", "tiesOf", "(II)I"⟩, 34) := ⟨⟨by decide +kernel, by decide +kernel⟩, List.mem_of_getElem? (i := 839) (by decide +kernel), List.mem_of_getElem? (i := 1119) (by decide +kernel), List.mem_of_getElem? (i := 1120) (by decide +kernel)⟩
theorem lw_p47 : lw_okq (⟨"ReignLaddersModel", "isKnown", "(II)Z"⟩, 34) := ⟨⟨by decide +kernel, by decide +kernel⟩, List.mem_of_getElem? (i := 839) (by decide +kernel), List.mem_of_getElem? (i := 1123) (by decide +kernel), List.mem_of_getElem? (i := 1124) (by decide +kernel)⟩
def lw_privs_3 : List (MethodName × Nat) := [(⟨"ReignLaddersModel", "leastOf", "(II)I"⟩, 34), (⟨"ReignLaddersModel", "otherLength", "(II)I"⟩, 34), (⟨"ReignLaddersModel", "mostOf", "(II)I"⟩, 34), (⟨"ReignLaddersModel", "lengthsOf", "(II)I"⟩, 34), (⟨"ReignLaddersModel", "come", "(IIIIIII)I"⟩, 34), (⟨"ReignLaddersModel", "isTie", "(I)Z"⟩, 34), (⟨"ReignLaddersModel", "readText", "()V"⟩, 34), (⟨"ReignLaddersModel", "next", "(III)I"⟩, 34), (⟨"ReignLaddersModel", "countsOf", "(II)I"⟩, 34), (⟨"ReignLaddersModel", "saysOf", "(III)I"⟩, 34), (⟨"ReignLaddersModel", "holds", "(I)Z"⟩, 34), (⟨"ReignLaddersModel", "openGroup", "()V"⟩, 34), (⟨"ReignLaddersModel", "factor", "(Z)V"⟩, 34), (⟨"ReignLaddersModel", "believesOf", "(II)I"⟩, 34), (⟨"ReignLaddersModel", "tiesOf", "(II)I"⟩, 34), (⟨"ReignLaddersModel", "isKnown", "(II)Z"⟩, 34)]
theorem lw_r3 : ∀ q ∈ lw_privs_3, lw_okq q := List.forall_mem_cons.mpr ⟨lw_p32, List.forall_mem_cons.mpr ⟨lw_p33, List.forall_mem_cons.mpr ⟨lw_p34, List.forall_mem_cons.mpr ⟨lw_p35, List.forall_mem_cons.mpr ⟨lw_p36, List.forall_mem_cons.mpr ⟨lw_p37, List.forall_mem_cons.mpr ⟨lw_p38, List.forall_mem_cons.mpr ⟨lw_p39, List.forall_mem_cons.mpr ⟨lw_p40, List.forall_mem_cons.mpr ⟨lw_p41, List.forall_mem_cons.mpr ⟨lw_p42, List.forall_mem_cons.mpr ⟨lw_p43, List.forall_mem_cons.mpr ⟨lw_p44, List.forall_mem_cons.mpr ⟨lw_p45, List.forall_mem_cons.mpr ⟨lw_p46, List.forall_mem_cons.mpr ⟨lw_p47, fun _ h => absurd h List.not_mem_nil⟩⟩⟩⟩⟩⟩⟩⟩⟩⟩⟩⟩⟩⟩⟩⟩
theorem lw_p48 : lw_okq (⟨"ReignLaddersModel", "solve", "(IIII)V"⟩, 34) := ⟨⟨by decide +kernel, by decide +kernel⟩, List.mem_of_getElem? (i := 839) (by decide +kernel), List.mem_of_getElem? (i := 1127) (by decide +kernel), List.mem_of_getElem? (i := 1128) (by decide +kernel)⟩
theorem lw_p49 : lw_okq (⟨"ReignLaddersModel", "layChoice", "(II)Z"⟩, 34) := ⟨⟨by decide +kernel, by decide +kernel⟩, List.mem_of_getElem? (i := 839) (by decide +kernel), List.mem_of_getElem? (i := 1131) (by decide +kernel), List.mem_of_getElem? (i := 1132) (by decide +kernel)⟩
theorem lw_p50 : lw_okq (⟨"ReignLaddersModel", "bind", "(IIII)V"⟩, 34) := ⟨⟨by decide +kernel, by decide +kernel⟩, List.mem_of_getElem? (i := 839) (by decide +kernel), List.mem_of_getElem? (i := 1136) (by decide +kernel), List.mem_of_getElem? (i := 1137) (by decide +kernel)⟩
theorem lw_p51 : lw_okq (⟨"ReignLaddersModel", "misreadAhead", "(I)I"⟩, 34) := ⟨⟨by decide +kernel, by decide +kernel⟩, List.mem_of_getElem? (i := 839) (by decide +kernel), List.mem_of_getElem? (i := 1140) (by decide +kernel), List.mem_of_getElem? (i := 1141) (by decide +kernel)⟩
theorem lw_p52 : lw_okq (⟨"ReignLaddersModel", "layTie", "(II)V"⟩, 34) := ⟨⟨by decide +kernel, by decide +kernel⟩, List.mem_of_getElem? (i := 839) (by decide +kernel), List.mem_of_getElem? (i := 1144) (by decide +kernel), List.mem_of_getElem? (i := 1145) (by decide +kernel)⟩
theorem lw_p53 : lw_okq (⟨"ReignLaddersModel", "closeWays", "()Z"⟩, 34) := ⟨⟨by decide +kernel, by decide +kernel⟩, List.mem_of_getElem? (i := 839) (by decide +kernel), List.mem_of_getElem? (i := 1149) (by decide +kernel), List.mem_of_getElem? (i := 1150) (by decide +kernel)⟩
theorem lw_p54 : lw_okq (⟨"ReignLaddersModel", "take", "(I)V"⟩, 34) := ⟨⟨by decide +kernel, by decide +kernel⟩, List.mem_of_getElem? (i := 839) (by decide +kernel), List.mem_of_getElem? (i := 1153) (by decide +kernel), List.mem_of_getElem? (i := 1154) (by decide +kernel)⟩
theorem lw_p55 : lw_okq (⟨"ReignLaddersModel", "floatsOf", "(II)I"⟩, 34) := ⟨⟨by decide +kernel, by decide +kernel⟩, List.mem_of_getElem? (i := 839) (by decide +kernel), List.mem_of_getElem? (i := 1176) (by decide +kernel), List.mem_of_getElem? (i := 1177) (by decide +kernel)⟩
theorem lw_p56 : lw_okq (⟨"ReignLaddersModel", "openNow", "(I)I"⟩, 34) := ⟨⟨by decide +kernel, by decide +kernel⟩, List.mem_of_getElem? (i := 839) (by decide +kernel), List.mem_of_getElem? (i := 1184) (by decide +kernel), List.mem_of_getElem? (i := 1185) (by decide +kernel)⟩
theorem lw_p57 : lw_okq (⟨"ReignLaddersModel", "closesOf", "(III)I"⟩, 34) := ⟨⟨by decide +kernel, by decide +kernel⟩, List.mem_of_getElem? (i := 839) (by decide +kernel), List.mem_of_getElem? (i := 1200) (by decide +kernel), List.mem_of_getElem? (i := 1201) (by decide +kernel)⟩
theorem lw_p58 : lw_okq (⟨"ReignLaddersModel", "mayLast", "(III)Z"⟩, 34) := ⟨⟨by decide +kernel, by decide +kernel⟩, List.mem_of_getElem? (i := 839) (by decide +kernel), List.mem_of_getElem? (i := 1216) (by decide +kernel), List.mem_of_getElem? (i := 1217) (by decide +kernel)⟩
theorem lw_p59 : lw_okq (⟨"ReignLaddersModel", "holdsTold", "(I)Z"⟩, 34) := ⟨⟨by decide +kernel, by decide +kernel⟩, List.mem_of_getElem? (i := 839) (by decide +kernel), List.mem_of_getElem? (i := 1220) (by decide +kernel), List.mem_of_getElem? (i := 1221) (by decide +kernel)⟩
theorem lw_p60 : lw_okq (⟨"ReignLaddersModel", "howMany", "(I)I"⟩, 34) := ⟨⟨by decide +kernel, by decide +kernel⟩, List.mem_of_getElem? (i := 839) (by decide +kernel), List.mem_of_getElem? (i := 1228) (by decide +kernel), List.mem_of_getElem? (i := 1229) (by decide +kernel)⟩
theorem lw_p61 : lw_okq (⟨"ReignLaddersModel", "mix", "(J)V"⟩, 34) := ⟨⟨by decide +kernel, by decide +kernel⟩, List.mem_of_getElem? (i := 839) (by decide +kernel), List.mem_of_getElem? (i := 1237) (by decide +kernel), List.mem_of_getElem? (i := 1238) (by decide +kernel)⟩
def lw_privs_4 : List (MethodName × Nat) := [(⟨"ReignLaddersModel", "solve", "(IIII)V"⟩, 34), (⟨"ReignLaddersModel", "layChoice", "(II)Z"⟩, 34), (⟨"ReignLaddersModel", "bind", "(IIII)V"⟩, 34), (⟨"ReignLaddersModel", "misreadAhead", "(I)I"⟩, 34), (⟨"ReignLaddersModel", "layTie", "(II)V"⟩, 34), (⟨"ReignLaddersModel", "closeWays", "()Z"⟩, 34), (⟨"ReignLaddersModel", "take", "(I)V"⟩, 34), (⟨"ReignLaddersModel", "floatsOf", "(II)I"⟩, 34), (⟨"ReignLaddersModel", "openNow", "(I)I"⟩, 34), (⟨"ReignLaddersModel", "closesOf", "(III)I"⟩, 34), (⟨"ReignLaddersModel", "mayLast", "(III)Z"⟩, 34), (⟨"ReignLaddersModel", "holdsTold", "(I)Z"⟩, 34), (⟨"ReignLaddersModel", "howMany", "(I)I"⟩, 34), (⟨"ReignLaddersModel", "mix", "(J)V"⟩, 34)]
theorem lw_r4 : ∀ q ∈ lw_privs_4, lw_okq q := List.forall_mem_cons.mpr ⟨lw_p48, List.forall_mem_cons.mpr ⟨lw_p49, List.forall_mem_cons.mpr ⟨lw_p50, List.forall_mem_cons.mpr ⟨lw_p51, List.forall_mem_cons.mpr ⟨lw_p52, List.forall_mem_cons.mpr ⟨lw_p53, List.forall_mem_cons.mpr ⟨lw_p54, List.forall_mem_cons.mpr ⟨lw_p55, List.forall_mem_cons.mpr ⟨lw_p56, List.forall_mem_cons.mpr ⟨lw_p57, List.forall_mem_cons.mpr ⟨lw_p58, List.forall_mem_cons.mpr ⟨lw_p59, List.forall_mem_cons.mpr ⟨lw_p60, List.forall_mem_cons.mpr ⟨lw_p61, fun _ h => absurd h List.not_mem_nil⟩⟩⟩⟩⟩⟩⟩⟩⟩⟩⟩⟩⟩⟩
def lw_privs : List (MethodName × Nat) := lw_privs_1 ++ (lw_privs_2 ++ (lw_privs_3 ++ (lw_privs_4)))
def lw_tbl : List Cond := k2_sels lw_privs ++ tables_1
theorem lw_privs_ok : ∀ q ∈ lw_privs, lw_okq q := by
  show ∀ q ∈ lw_privs_1 ++ (lw_privs_2 ++ (lw_privs_3 ++ (lw_privs_4))), lw_okq q
  exact List.forall_mem_append.mpr ⟨lw_r1, List.forall_mem_append.mpr ⟨lw_r2, List.forall_mem_append.mpr ⟨lw_r3, lw_r4⟩⟩⟩
-- ===== end of PART A; then your names; then what follows =====
def RX0 : String := "ReignLadders$Grid"
def TX0 : u_T := fun k => match k with
  | 0 => ("ReignLadders$Grid", "cells", "[I", true)
  | _ => ("ReignLadders$Grid", "points", "I", false)
def tyX0 : Nat → FieldType := fun k => match k with
  | 0 => .array .int
  | _ => .int
abbrev wsX00 : List Cond := u_ws RX0 TX0 2
theorem nmX0 : ∀ a, a < 2 → ∀ b, b < 2 → a ≠ b → (TX0 a).2.1 ≠ (TX0 b).2.1 := by decide +kernel
theorem tyX0_ok : ∀ k, k < 2 → parseFieldDescriptor (TX0 k).2.2.1 = some (tyX0 k) := by decide +kernel
abbrev cX0_init : ByteArray := prog_2_method_1_code
def yX0_init : MethodName := ⟨RX0, "<init>", "()V"⟩
abbrev cX0_clear : ByteArray := prog_2_method_2_code
def yX0_clear : MethodName := ⟨RX0, "clear", "(I)V"⟩
abbrev cX0_copy : ByteArray := prog_2_method_3_code
def yX0_copy : MethodName := ⟨RX0, "copy", "(LReignLadders$Grid;)V"⟩
abbrev cX0_most : ByteArray := prog_2_method_4_code
def yX0_most : MethodName := ⟨RX0, "most", "(II)I"⟩
abbrev cX0_keep : ByteArray := prog_2_method_5_code
def yX0_keep : MethodName := ⟨RX0, "keep", "(IIII)Z"⟩
abbrev cX0_hold : ByteArray := prog_2_method_6_code
def yX0_hold : MethodName := ⟨RX0, "hold", "(III)Z"⟩
abbrev cX0_allows : ByteArray := prog_2_method_7_code
def yX0_allows : MethodName := ⟨RX0, "allows", "(IIII)Z"⟩
def RX1 : String := "ReignLadders$Ladders"
def TX1 : u_T := fun k => match k with
  | 0 => ("ReignLadders$Ladders", "reigns", "LReignLadders$Reigns;", true)
  | 1 => ("ReignLadders$Ladders", "ties", "LReignLadders$Ties;", true)
  | 2 => ("ReignLadders$Ladders", "wishes", "LReignLadders$Ties;", true)
  | 3 => ("ReignLadders$Ladders", "lists", "LReignLadders$Grid;", true)
  | 4 => ("ReignLadders$Ladders", "tiedLists", "LReignLadders$Grid;", true)
  | 5 => ("ReignLadders$Ladders", "trial", "LReignLadders$Grid;", true)
  | 6 => ("ReignLadders$Ladders", "forkBehind", "[I", true)
  | 7 => ("ReignLadders$Ladders", "forkLeast", "[I", true)
  | 8 => ("ReignLadders$Ladders", "forkMost", "[I", true)
  | 9 => ("ReignLadders$Ladders", "least", "[I", true)
  | 10 => ("ReignLadders$Ladders", "greatest", "[I", true)
  | 11 => ("ReignLadders$Ladders", "keptLeast", "[I", true)
  | 12 => ("ReignLadders$Ladders", "keptGreatest", "[I", true)
  | 13 => ("ReignLadders$Ladders", "edition", "I", false)
  | 14 => ("ReignLadders$Ladders", "forks", "I", false)
  | 15 => ("ReignLadders$Ladders", "firstSky", "I", false)
  | 16 => ("ReignLadders$Ladders", "secondSky", "I", false)
  | _ => ("ReignLadders$Ladders", "found", "Z", false)
def tyX1 : Nat → FieldType := fun k => match k with
  | 0 => .object "ReignLadders$Reigns"
  | 1 => .object "ReignLadders$Ties"
  | 2 => .object "ReignLadders$Ties"
  | 3 => .object "ReignLadders$Grid"
  | 4 => .object "ReignLadders$Grid"
  | 5 => .object "ReignLadders$Grid"
  | 6 => .array .int
  | 7 => .array .int
  | 8 => .array .int
  | 9 => .array .int
  | 10 => .array .int
  | 11 => .array .int
  | 12 => .array .int
  | 13 => .int
  | 14 => .int
  | 15 => .int
  | 16 => .int
  | _ => .boolean
abbrev wsX10 : List Cond := u_ws RX1 TX1 18
theorem nmX1 : ∀ a, a < 18 → ∀ b, b < 18 → a ≠ b → (TX1 a).2.1 ≠ (TX1 b).2.1 := by decide +kernel
theorem tyX1_ok : ∀ k, k < 18 → parseFieldDescriptor (TX1 k).2.2.1 = some (tyX1 k) := by decide +kernel
abbrev cX1_init : ByteArray := prog_3_method_1_code
def yX1_init : MethodName := ⟨RX1, "<init>", "(LReignLadders$Reigns;LReignLadders$Ties;LReignLadders$Ties;)V"⟩
abbrev cX1_layLists : ByteArray := prog_3_method_2_code
def yX1_layLists : MethodName := ⟨RX1, "layLists", "(II)V"⟩
abbrev cX1_layBehind : ByteArray := prog_3_method_3_code
def yX1_layBehind : MethodName := ⟨RX1, "layBehind", "(III)V"⟩
abbrev cX1_find : ByteArray := prog_3_method_4_code
def yX1_find : MethodName := ⟨RX1, "find", "(IIZ)Z"⟩
abbrev cX1_layTies : ByteArray := prog_3_method_5_code
def yX1_layTies : MethodName := ⟨RX1, "layTies", "(I)Z"⟩
abbrev cX1_layTie : ByteArray := prog_3_method_6_code
def yX1_layTie : MethodName := ⟨RX1, "layTie", "(I)Z"⟩
abbrev cX1_layPair : ByteArray := prog_3_method_7_code
def yX1_layPair : MethodName := ⟨RX1, "layPair", "(LReignLadders$Ties;I)Z"⟩
abbrev cX1_takeForks : ByteArray := prog_3_method_8_code
def yX1_takeForks : MethodName := ⟨RX1, "takeForks", "(I)Z"⟩
abbrev cX1_tryYears : ByteArray := prog_3_method_9_code
def yX1_tryYears : MethodName := ⟨RX1, "tryYears", "(Z)V"⟩
abbrev cX1_yearsOf : ByteArray := prog_3_method_10_code
def yX1_yearsOf : MethodName := ⟨RX1, "yearsOf", "(I)I"⟩
abbrev cX1_pointOf : ByteArray := prog_3_method_11_code
def yX1_pointOf : MethodName := ⟨RX1, "pointOf", "(I)I"⟩
abbrev cX1_beginning : ByteArray := prog_3_method_12_code
def yX1_beginning : MethodName := ⟨RX1, "beginning", "(II)I"⟩
abbrev cX1_widen : ByteArray := prog_3_method_13_code
def yX1_widen : MethodName := ⟨RX1, "widen", "(II)V"⟩
abbrev cX1_end : ByteArray := prog_3_method_14_code
def yX1_end : MethodName := ⟨RX1, "end", "(II)I"⟩
abbrev cX1_openness : ByteArray := prog_3_method_15_code
def yX1_openness : MethodName := ⟨RX1, "openness", "()I"⟩
abbrev cX1_keepSpans : ByteArray := prog_3_method_16_code
def yX1_keepSpans : MethodName := ⟨RX1, "keepSpans", "()V"⟩
abbrev cX1_firstUnlikeKept : ByteArray := prog_3_method_17_code
def yX1_firstUnlikeKept : MethodName := ⟨RX1, "firstUnlikeKept", "()I"⟩
def RX2 : String := "ReignLadders$Page"
def TX2 : u_T := fun k => match k with
  | 0 => ("ReignLadders$Page", "letters", "[I", true)
  | 1 => ("ReignLadders$Page", "size", "I", false)
  | 2 => ("ReignLadders$Page", "expected", "I", false)
  | _ => ("ReignLadders$Page", "depth", "I", false)
def tyX2 : Nat → FieldType := fun k => match k with
  | 0 => .array .int
  | 1 => .int
  | 2 => .int
  | _ => .int
abbrev wsX20 : List Cond := u_ws RX2 TX2 4
theorem nmX2 : ∀ a, a < 4 → ∀ b, b < 4 → a ≠ b → (TX2 a).2.1 ≠ (TX2 b).2.1 := by decide +kernel
theorem tyX2_ok : ∀ k, k < 4 → parseFieldDescriptor (TX2 k).2.2.1 = some (tyX2 k) := by decide +kernel
abbrev cX2_init : ByteArray := prog_4_method_1_code
def yX2_init : MethodName := ⟨RX2, "<init>", "()V"⟩
abbrev cX2_size : ByteArray := prog_4_method_2_code
def yX2_size : MethodName := ⟨RX2, "size", "()I"⟩
abbrev cX2_letterAt : ByteArray := prog_4_method_3_code
def yX2_letterAt : MethodName := ⟨RX2, "letterAt", "(I)I"⟩
abbrev cX2_byteOf : ByteArray := prog_4_method_4_code
def yX2_byteOf : MethodName := ⟨RX2, "byteOf", "(JI)I"⟩
abbrev cX2_lettersIn : ByteArray := prog_4_method_5_code
def yX2_lettersIn : MethodName := ⟨RX2, "lettersIn", "(J)I"⟩
abbrev cX2_write : ByteArray := prog_4_method_6_code
def yX2_write : MethodName := ⟨RX2, "write", "(JI)I"⟩
abbrev cX2_wipe : ByteArray := prog_4_method_7_code
def yX2_wipe : MethodName := ⟨RX2, "wipe", "()I"⟩
abbrev cX2_firstFault : ByteArray := prog_4_method_8_code
def yX2_firstFault : MethodName := ⟨RX2, "firstFault", "()I"⟩
abbrev cX2_isText : ByteArray := prog_4_method_9_code
def yX2_isText : MethodName := ⟨RX2, "isText", "()Z"⟩
abbrev cX2_after : ByteArray := prog_4_method_10_code
def yX2_after : MethodName := ⟨RX2, "after", "(I)I"⟩
abbrev cX2_afterFactorBegins : ByteArray := prog_4_method_11_code
def yX2_afterFactorBegins : MethodName := ⟨RX2, "afterFactorBegins", "(I)I"⟩
abbrev cX2_afterFactorEnds : ByteArray := prog_4_method_12_code
def yX2_afterFactorEnds : MethodName := ⟨RX2, "afterFactorEnds", "(I)I"⟩
abbrev cX2_isDigit : ByteArray := prog_4_method_13_code
def yX2_isDigit : MethodName := ⟨RX2, "isDigit", "(I)Z"⟩
abbrev cX2_digestOn : ByteArray := prog_4_method_14_code
def yX2_digestOn : MethodName := ⟨RX2, "digestOn", "(J)J"⟩
def RX3 : String := "ReignLadders$Reigns"
def TX3 : u_T := fun k => match k with
  | 0 => ("ReignLadders$Reigns", "facts", "[I", true)
  | 1 => ("ReignLadders$Reigns", "told", "[I", true)
  | 2 => ("ReignLadders$Reigns", "lastOfLand", "[I", true)
  | 3 => ("ReignLadders$Reigns", "size", "I", false)
  | _ => ("ReignLadders$Reigns", "misread", "I", false)
def tyX3 : Nat → FieldType := fun k => match k with
  | 0 => .array .int
  | 1 => .array .int
  | 2 => .array .int
  | 3 => .int
  | _ => .int
abbrev wsX30 : List Cond := u_ws RX3 TX3 5
theorem nmX3 : ∀ a, a < 5 → ∀ b, b < 5 → a ≠ b → (TX3 a).2.1 ≠ (TX3 b).2.1 := by decide +kernel
theorem tyX3_ok : ∀ k, k < 5 → parseFieldDescriptor (TX3 k).2.2.1 = some (tyX3 k) := by decide +kernel
abbrev cX3_init : ByteArray := prog_5_method_1_code
def yX3_init : MethodName := ⟨RX3, "<init>", "()V"⟩
abbrev cX3_size : ByteArray := prog_5_method_2_code
def yX3_size : MethodName := ⟨RX3, "size", "()I"⟩
abbrev cX3_has : ByteArray := prog_5_method_3_code
def yX3_has : MethodName := ⟨RX3, "has", "(I)Z"⟩
abbrev cX3_fact : ByteArray := prog_5_method_4_code
def yX3_fact : MethodName := ⟨RX3, "fact", "(II)I"⟩
abbrev cX3_lastOf : ByteArray := prog_5_method_5_code
def yX3_lastOf : MethodName := ⟨RX3, "lastOf", "(I)I"⟩
abbrev cX3_isOf : ByteArray := prog_5_method_6_code
def yX3_isOf : MethodName := ⟨RX3, "isOf", "(II)Z"⟩
abbrev cX3_hasRoomFor : ByteArray := prog_5_method_7_code
def yX3_hasRoomFor : MethodName := ⟨RX3, "hasRoomFor", "(I)Z"⟩
abbrev cX3_add : ByteArray := prog_5_method_8_code
def yX3_add : MethodName := ⟨RX3, "add", "(IIIII)I"⟩
abbrev cX3_renumber : ByteArray := prog_5_method_9_code
def yX3_renumber : MethodName := ⟨RX3, "renumber", "(II)I"⟩
abbrev cX3_retell : ByteArray := prog_5_method_10_code
def yX3_retell : MethodName := ⟨RX3, "retell", "(II)I"⟩
abbrev cX3_toldYear : ByteArray := prog_5_method_11_code
def yX3_toldYear : MethodName := ⟨RX3, "toldYear", "(I)I"⟩
abbrev cX3_isKnown : ByteArray := prog_5_method_12_code
def yX3_isKnown : MethodName := ⟨RX3, "isKnown", "(II)Z"⟩
abbrev cX3_knownBits : ByteArray := prog_5_method_13_code
def yX3_knownBits : MethodName := ⟨RX3, "knownBits", "(I)I"⟩
abbrev cX3_overlap : ByteArray := prog_5_method_14_code
def yX3_overlap : MethodName := ⟨RX3, "overlap", "(I)I"⟩
abbrev cX3_counted : ByteArray := prog_5_method_15_code
def yX3_counted : MethodName := ⟨RX3, "counted", "(II)I"⟩
abbrev cX3_otherReading : ByteArray := prog_5_method_16_code
def yX3_otherReading : MethodName := ⟨RX3, "otherReading", "(II)I"⟩
abbrev cX3_shortest : ByteArray := prog_5_method_17_code
def yX3_shortest : MethodName := ⟨RX3, "shortest", "(II)I"⟩
abbrev cX3_longest : ByteArray := prog_5_method_18_code
def yX3_longest : MethodName := ⟨RX3, "longest", "(II)I"⟩
abbrev cX3_isMisread : ByteArray := prog_5_method_19_code
def yX3_isMisread : MethodName := ⟨RX3, "isMisread", "(I)Z"⟩
abbrev cX3_lengths : ByteArray := prog_5_method_20_code
def yX3_lengths : MethodName := ⟨RX3, "lengths", "(II)I"⟩
abbrev cX3_isToldBehind : ByteArray := prog_5_method_21_code
def yX3_isToldBehind : MethodName := ⟨RX3, "isToldBehind", "(III)Z"⟩
abbrev cX3_spreadInLands : ByteArray := prog_5_method_22_code
def yX3_spreadInLands : MethodName := ⟨RX3, "spreadInLands", "(II)I"⟩
abbrev cX3_digestOn : ByteArray := prog_5_method_23_code
def yX3_digestOn : MethodName := ⟨RX3, "digestOn", "(J)J"⟩
def RX4 : String := "ReignLadders$School"
def TX4 : u_T := fun k => match k with
  | 0 => ("ReignLadders$School", "letters", "[I", true)
  | 1 => ("ReignLadders$School", "lengths", "[I", true)
  | _ => ("ReignLadders$School", "size", "I", false)
def tyX4 : Nat → FieldType := fun k => match k with
  | 0 => .array .int
  | 1 => .array .int
  | _ => .int
abbrev wsX40 : List Cond := u_ws RX4 TX4 3
theorem nmX4 : ∀ a, a < 3 → ∀ b, b < 3 → a ≠ b → (TX4 a).2.1 ≠ (TX4 b).2.1 := by decide +kernel
theorem tyX4_ok : ∀ k, k < 3 → parseFieldDescriptor (TX4 k).2.2.1 = some (tyX4 k) := by decide +kernel
abbrev cX4_init : ByteArray := prog_6_method_1_code
def yX4_init : MethodName := ⟨RX4, "<init>", "()V"⟩
abbrev cX4_size : ByteArray := prog_6_method_2_code
def yX4_size : MethodName := ⟨RX4, "size", "()I"⟩
abbrev cX4_isFull : ByteArray := prog_6_method_3_code
def yX4_isFull : MethodName := ⟨RX4, "isFull", "()Z"⟩
abbrev cX4_learn : ByteArray := prog_6_method_4_code
def yX4_learn : MethodName := ⟨RX4, "learn", "(LReignLadders$Page;)I"⟩
abbrev cX4_unlearn : ByteArray := prog_6_method_5_code
def yX4_unlearn : MethodName := ⟨RX4, "unlearn", "()I"⟩
abbrev cX4_says : ByteArray := prog_6_method_6_code
def yX4_says : MethodName := ⟨RX4, "says", "(ILReignLadders$Subject;I)I"⟩
def RX5 : String := "ReignLadders$Subject"
def TX5 : u_T := fun k => match k with
  | 0 => ("ReignLadders$Subject", "land", "I", false)
  | 1 => ("ReignLadders$Subject", "kind", "I", false)
  | 2 => ("ReignLadders$Subject", "number", "I", false)
  | 3 => ("ReignLadders$Subject", "own", "I", false)
  | 4 => ("ReignLadders$Subject", "anyTerm", "J", false)
  | 5 => ("ReignLadders$Subject", "allFactors", "J", false)
  | _ => ("ReignLadders$Subject", "flipped", "J", false)
def tyX5 : Nat → FieldType := fun k => match k with
  | 0 => .int
  | 1 => .int
  | 2 => .int
  | 3 => .int
  | 4 => .long
  | 5 => .long
  | _ => .long
abbrev wsX50 : List Cond := u_ws RX5 TX5 7
theorem nmX5 : ∀ a, a < 7 → ∀ b, b < 7 → a ≠ b → (TX5 a).2.1 ≠ (TX5 b).2.1 := by decide +kernel
theorem tyX5_ok : ∀ k, k < 7 → parseFieldDescriptor (TX5 k).2.2.1 = some (tyX5 k) := by decide +kernel
abbrev cX5_init : ByteArray := prog_7_method_1_code
def yX5_init : MethodName := ⟨RX5, "<init>", "()V"⟩
abbrev cX5_set : ByteArray := prog_7_method_2_code
def yX5_set : MethodName := ⟨RX5, "set", "(IIII)V"⟩
abbrev cX5_meets : ByteArray := prog_7_method_3_code
def yX5_meets : MethodName := ⟨RX5, "meets", "([III)Z"⟩
abbrev cX5_begin : ByteArray := prog_7_method_4_code
def yX5_begin : MethodName := ⟨RX5, "begin", "()V"⟩
abbrev cX5_end : ByteArray := prog_7_method_5_code
def yX5_end : MethodName := ⟨RX5, "end", "()J"⟩
abbrev cX5_take : ByteArray := prog_7_method_6_code
def yX5_take : MethodName := ⟨RX5, "take", "(J)V"⟩
abbrev cX5_valueOf : ByteArray := prog_7_method_7_code
def yX5_valueOf : MethodName := ⟨RX5, "valueOf", "(I)I"⟩
abbrev cX5_numberOf : ByteArray := prog_7_method_8_code
def yX5_numberOf : MethodName := ⟨RX5, "numberOf", "(II)I"⟩
abbrev cX5_compared : ByteArray := prog_7_method_9_code
def yX5_compared : MethodName := ⟨RX5, "compared", "(III)J"⟩
def RX6 : String := "ReignLadders$Ties"
def TX6 : u_T := fun k => match k with
  | 0 => ("ReignLadders$Ties", "facts", "[I", true)
  | 1 => ("ReignLadders$Ties", "years", "[I", true)
  | 2 => ("ReignLadders$Ties", "most", "I", true)
  | 3 => ("ReignLadders$Ties", "size", "I", false)
  | _ => ("ReignLadders$Ties", "skies", "I", false)
def tyX6 : Nat → FieldType := fun k => match k with
  | 0 => .array .int
  | 1 => .array .int
  | 2 => .int
  | 3 => .int
  | _ => .int
abbrev wsX60 : List Cond := u_ws RX6 TX6 5
theorem nmX6 : ∀ a, a < 5 → ∀ b, b < 5 → a ≠ b → (TX6 a).2.1 ≠ (TX6 b).2.1 := by decide +kernel
theorem tyX6_ok : ∀ k, k < 5 → parseFieldDescriptor (TX6 k).2.2.1 = some (tyX6 k) := by decide +kernel
abbrev cX6_init : ByteArray := prog_8_method_1_code
def yX6_init : MethodName := ⟨RX6, "<init>", "(I)V"⟩
abbrev cX6_size : ByteArray := prog_8_method_2_code
def yX6_size : MethodName := ⟨RX6, "size", "()I"⟩
abbrev cX6_has : ByteArray := prog_8_method_3_code
def yX6_has : MethodName := ⟨RX6, "has", "(I)Z"⟩
abbrev cX6_isFull : ByteArray := prog_8_method_4_code
def yX6_isFull : MethodName := ⟨RX6, "isFull", "()Z"⟩
abbrev cX6_areSkiesFull : ByteArray := prog_8_method_5_code
def yX6_areSkiesFull : MethodName := ⟨RX6, "areSkiesFull", "()Z"⟩
abbrev cX6_fact : ByteArray := prog_8_method_6_code
def yX6_fact : MethodName := ⟨RX6, "fact", "(II)I"⟩
abbrev cX6_year : ByteArray := prog_8_method_7_code
def yX6_year : MethodName := ⟨RX6, "year", "(II)I"⟩
abbrev cX6_add : ByteArray := prog_8_method_8_code
def yX6_add : MethodName := ⟨RX6, "add", "(IIIIIII)I"⟩
abbrev cX6_addSky : ByteArray := prog_8_method_9_code
def yX6_addSky : MethodName := ⟨RX6, "addSky", "(IIIIII)I"⟩
abbrev cX6_addRing : ByteArray := prog_8_method_10_code
def yX6_addRing : MethodName := ⟨RX6, "addRing", "(IIII)I"⟩
abbrev cX6_drop : ByteArray := prog_8_method_11_code
def yX6_drop : MethodName := ⟨RX6, "drop", "()I"⟩
abbrev cX6_shift : ByteArray := prog_8_method_12_code
def yX6_shift : MethodName := ⟨RX6, "shift", "(I)I"⟩
abbrev cX6_beginning : ByteArray := prog_8_method_13_code
def yX6_beginning : MethodName := ⟨RX6, "beginning", "(II)I"⟩
abbrev cX6_isKnown : ByteArray := prog_8_method_14_code
def yX6_isKnown : MethodName := ⟨RX6, "isKnown", "(IILReignLadders$Reigns;)Z"⟩
abbrev cX6_holdsAsTold : ByteArray := prog_8_method_15_code
def yX6_holdsAsTold : MethodName := ⟨RX6, "holdsAsTold", "(ILReignLadders$Reigns;)Z"⟩
abbrev cX6_spread : ByteArray := prog_8_method_16_code
def yX6_spread : MethodName := ⟨RX6, "spread", "(II)I"⟩
abbrev cX6_digestOn : ByteArray := prog_8_method_17_code
def yX6_digestOn : MethodName := ⟨RX6, "digestOn", "(J)J"⟩
abbrev cX6_digestPairsOn : ByteArray := prog_8_method_18_code
def yX6_digestPairsOn : MethodName := ⟨RX6, "digestPairsOn", "(J)J"⟩
def RX7 : String := "ReignLadders"
def TX7 : u_T := fun k => match k with
  | 0 => ("ReignLadders", "reigns", "LReignLadders$Reigns;", true)
  | 1 => ("ReignLadders", "ties", "LReignLadders$Ties;", true)
  | 2 => ("ReignLadders", "wishes", "LReignLadders$Ties;", true)
  | 3 => ("ReignLadders", "firstSchool", "LReignLadders$School;", true)
  | 4 => ("ReignLadders", "secondSchool", "LReignLadders$School;", true)
  | 5 => ("ReignLadders", "subject", "LReignLadders$Subject;", true)
  | 6 => ("ReignLadders", "page", "LReignLadders$Page;", true)
  | 7 => ("ReignLadders", "ladders", "LReignLadders$Ladders;", true)
  | _ => ("ReignLadders", "doubts", "I", false)
def tyX7 : Nat → FieldType := fun k => match k with
  | 0 => .object "ReignLadders$Reigns"
  | 1 => .object "ReignLadders$Ties"
  | 2 => .object "ReignLadders$Ties"
  | 3 => .object "ReignLadders$School"
  | 4 => .object "ReignLadders$School"
  | 5 => .object "ReignLadders$Subject"
  | 6 => .object "ReignLadders$Page"
  | 7 => .object "ReignLadders$Ladders"
  | _ => .int
abbrev wsX70 : List Cond := u_ws RX7 TX7 9
theorem nmX7 : ∀ a, a < 9 → ∀ b, b < 9 → a ≠ b → (TX7 a).2.1 ≠ (TX7 b).2.1 := by decide +kernel
theorem tyX7_ok : ∀ k, k < 9 → parseFieldDescriptor (TX7 k).2.2.1 = some (tyX7 k) := by decide +kernel
abbrev cX7_init : ByteArray := prog_1_method_1_code
def yX7_init : MethodName := ⟨RX7, "<init>", "()V"⟩
abbrev cX7_reign : ByteArray := prog_1_method_2_code
def yX7_reign : MethodName := ⟨RX7, "reign", "(IIIII)I"⟩
abbrev cX7_about : ByteArray := prog_1_method_3_code
def yX7_about : MethodName := ⟨RX7, "about", "(II)I"⟩
abbrev cX7_as : ByteArray := prog_1_method_4_code
def yX7_as : MethodName := ⟨RX7, "as", "(II)I"⟩
abbrev cX7_lasts : ByteArray := prog_1_method_5_code
def yX7_lasts : MethodName := ⟨RX7, "lasts", "(III)I"⟩
abbrev cX7_number : ByteArray := prog_1_method_6_code
def yX7_number : MethodName := ⟨RX7, "number", "(II)I"⟩
abbrev cX7_tie : ByteArray := prog_1_method_7_code
def yX7_tie : MethodName := ⟨RX7, "tie", "(IIIIII)I"⟩
abbrev cX7_sky : ByteArray := prog_1_method_8_code
def yX7_sky : MethodName := ⟨RX7, "sky", "(IIIIII)I"⟩
abbrev cX7_ring : ByteArray := prog_1_method_9_code
def yX7_ring : MethodName := ⟨RX7, "ring", "(IIII)I"⟩
abbrev cX7_letter : ByteArray := prog_1_method_10_code
def yX7_letter : MethodName := ⟨RX7, "letter", "(IIIII)I"⟩
abbrev cX7_tied : ByteArray := prog_1_method_11_code
def yX7_tied : MethodName := ⟨RX7, "tied", "(II)I"⟩
abbrev cX7_undo : ByteArray := prog_1_method_12_code
def yX7_undo : MethodName := ⟨RX7, "undo", "()I"⟩
abbrev cX7_letters : ByteArray := prog_1_method_13_code
def yX7_letters : MethodName := ⟨RX7, "letters", "(J)I"⟩
abbrev cX7_blank : ByteArray := prog_1_method_14_code
def yX7_blank : MethodName := ⟨RX7, "blank", "()I"⟩
abbrev cX7_fault : ByteArray := prog_1_method_15_code
def yX7_fault : MethodName := ⟨RX7, "fault", "()I"⟩
abbrev cX7_text : ByteArray := prog_1_method_16_code
def yX7_text : MethodName := ⟨RX7, "text", "(I)I"⟩
abbrev cX7_strike : ByteArray := prog_1_method_17_code
def yX7_strike : MethodName := ⟨RX7, "strike", "(I)I"⟩
abbrev cX7_counts : ByteArray := prog_1_method_18_code
def yX7_counts : MethodName := ⟨RX7, "counts", "(II)I"⟩
abbrev cX7_believes : ByteArray := prog_1_method_19_code
def yX7_believes : MethodName := ⟨RX7, "believes", "(II)I"⟩
abbrev cX7_can : ByteArray := prog_1_method_20_code
def yX7_can : MethodName := ⟨RX7, "can", "(II)I"⟩
abbrev cX7_span : ByteArray := prog_1_method_21_code
def yX7_span : MethodName := ⟨RX7, "span", "(IIII)I"⟩
abbrev cX7_held : ByteArray := prog_1_method_22_code
def yX7_held : MethodName := ⟨RX7, "held", "(IIII)I"⟩
abbrev cX7_doubt : ByteArray := prog_1_method_23_code
def yX7_doubt : MethodName := ⟨RX7, "doubt", "(III)I"⟩
abbrev cX7_floats : ByteArray := prog_1_method_24_code
def yX7_floats : MethodName := ⟨RX7, "floats", "(II)I"⟩
abbrev cX7_open : ByteArray := prog_1_method_25_code
def yX7_open : MethodName := ⟨RX7, "open", "(II)I"⟩
abbrev cX7_part : ByteArray := prog_1_method_26_code
def yX7_part : MethodName := ⟨RX7, "part", "()I"⟩
abbrev cX7_wish : ByteArray := prog_1_method_27_code
def yX7_wish : MethodName := ⟨RX7, "wish", "(IIIII)I"⟩
abbrev cX7_closes : ByteArray := prog_1_method_28_code
def yX7_closes : MethodName := ⟨RX7, "closes", "(III)I"⟩
abbrev cX7_best : ByteArray := prog_1_method_29_code
def yX7_best : MethodName := ⟨RX7, "best", "(II)I"⟩
abbrev cX7_tell : ByteArray := prog_1_method_30_code
def yX7_tell : MethodName := ⟨RX7, "tell", "(II)I"⟩
abbrev cX7_judge : ByteArray := prog_1_method_31_code
def yX7_judge : MethodName := ⟨RX7, "judge", "(I)I"⟩
abbrev cX7_count : ByteArray := prog_1_method_32_code
def yX7_count : MethodName := ⟨RX7, "count", "(I)I"⟩
abbrev cX7_digest : ByteArray := prog_1_method_33_code
def yX7_digest : MethodName := ⟨RX7, "digest", "()J"⟩
abbrev cX7_sayingsDigest : ByteArray := prog_1_method_34_code
def yX7_sayingsDigest : MethodName := ⟨RX7, "sayingsDigest", "(JI)J"⟩
abbrev cX7_within : ByteArray := prog_1_method_35_code
def yX7_within : MethodName := ⟨RX7, "within", "(III)Z"⟩
abbrev cX7_isYear : ByteArray := prog_1_method_36_code
def yX7_isYear : MethodName := ⟨RX7, "isYear", "(I)Z"⟩
abbrev cX7_arePlaces : ByteArray := prog_1_method_37_code
def yX7_arePlaces : MethodName := ⟨RX7, "arePlaces", "(II)Z"⟩
abbrev cX7_arePair : ByteArray := prog_1_method_38_code
def yX7_arePair : MethodName := ⟨RX7, "arePair", "(II)Z"⟩
abbrev cX7_isSchool : ByteArray := prog_1_method_39_code
def yX7_isSchool : MethodName := ⟨RX7, "isSchool", "(I)Z"⟩
abbrev cX7_refusal : ByteArray := prog_1_method_40_code
def yX7_refusal : MethodName := ⟨RX7, "refusal", "(II)I"⟩
abbrev cX7_schoolOf : ByteArray := prog_1_method_41_code
def yX7_schoolOf : MethodName := ⟨RX7, "schoolOf", "(I)LReignLadders$School;"⟩
abbrev cX7_countFor : ByteArray := prog_1_method_42_code
def yX7_countFor : MethodName := ⟨RX7, "countFor", "(II)I"⟩
abbrev cX7_beliefFor : ByteArray := prog_1_method_43_code
def yX7_beliefFor : MethodName := ⟨RX7, "beliefFor", "(II)I"⟩
abbrev cX7_believedBy : ByteArray := prog_1_method_44_code
def yX7_believedBy : MethodName := ⟨RX7, "believedBy", "(II)I"⟩
abbrev cX7_lay : ByteArray := prog_1_method_45_code
def yX7_lay : MethodName := ⟨RX7, "lay", "(II)I"⟩
abbrev cX7_holders : ByteArray := prog_1_method_46_code
def yX7_holders : MethodName := ⟨RX7, "holders", "(III)I"⟩
abbrev cX7_doubted : ByteArray := prog_1_method_47_code
def yX7_doubted : MethodName := ⟨RX7, "doubted", "(II)I"⟩
abbrev cX7_afloat : ByteArray := prog_1_method_48_code
def yX7_afloat : MethodName := ⟨RX7, "afloat", "(II)I"⟩
abbrev cX7_gain : ByteArray := prog_1_method_49_code
def yX7_gain : MethodName := ⟨RX7, "gain", "(IIII)I"⟩
abbrev cX7_at : ByteArray := prog_1_method_50_code
def yX7_at : MethodName := ⟨RX7, "at", "([II)I"⟩
abbrev cX7_put : ByteArray := prog_1_method_51_code
def yX7_put : MethodName := ⟨RX7, "put", "([III)V"⟩
def RX8 : String := "ReignLaddersModel"
def TX8 : u_T := fun k => match k with
  | 0 => ("ReignLaddersModel", "reigns", "I", false)
  | 1 => ("ReignLaddersModel", "landOf", "[I", true)
  | 2 => ("ReignLaddersModel", "kindOf", "[I", true)
  | 3 => ("ReignLaddersModel", "numberOf", "[I", true)
  | 4 => ("ReignLaddersModel", "otherOf", "[I", true)
  | 5 => ("ReignLaddersModel", "editionOf", "[I", true)
  | 6 => ("ReignLaddersModel", "aheadOf", "[I", true)
  | 7 => ("ReignLaddersModel", "toldYear", "[I", true)
  | 8 => ("ReignLaddersModel", "ties", "I", false)
  | 9 => ("ReignLaddersModel", "tieOf", "[I", true)
  | 10 => ("ReignLaddersModel", "yearOf", "[I", true)
  | 11 => ("ReignLaddersModel", "pageLength", "I", false)
  | 12 => ("ReignLaddersModel", "page", "[B", true)
  | 13 => ("ReignLaddersModel", "texts", "[I", true)
  | 14 => ("ReignLaddersModel", "textOf", "[B", true)
  | 15 => ("ReignLaddersModel", "textSize", "[I", true)
  | 16 => ("ReignLaddersModel", "wishes", "I", false)
  | 17 => ("ReignLaddersModel", "wishOf", "[I", true)
  | 18 => ("ReignLaddersModel", "doubtDone", "I", false)
  | 19 => ("ReignLaddersModel", "faultAt", "I", false)
  | 20 => ("ReignLaddersModel", "isWhole", "Z", false)
  | 21 => ("ReignLaddersModel", "of", "[I", true)
  | 22 => ("ReignLaddersModel", "anyTerm", "[Z", true)
  | 23 => ("ReignLaddersModel", "allFactors", "[Z", true)
  | 24 => ("ReignLaddersModel", "isDenied", "[Z", true)
  | 25 => ("ReignLaddersModel", "deep", "I", false)
  | 26 => ("ReignLaddersModel", "most", "[I", true)
  | 27 => ("ReignLaddersModel", "counted", "[I", true)
  | 28 => ("ReignLaddersModel", "low", "[I", true)
  | 29 => ("ReignLaddersModel", "high", "[I", true)
  | 30 => ("ReignLaddersModel", "isFound", "Z", false)
  | 31 => ("ReignLaddersModel", "firstLow", "[I", true)
  | 32 => ("ReignLaddersModel", "firstHigh", "[I", true)
  | _ => ("ReignLaddersModel", "h", "J", false)
def tyX8 : Nat → FieldType := fun k => match k with
  | 0 => .int
  | 1 => .array .int
  | 2 => .array .int
  | 3 => .array .int
  | 4 => .array .int
  | 5 => .array .int
  | 6 => .array .int
  | 7 => .array .int
  | 8 => .int
  | 9 => .array .int
  | 10 => .array .int
  | 11 => .int
  | 12 => .array .byte
  | 13 => .array .int
  | 14 => .array .byte
  | 15 => .array .int
  | 16 => .int
  | 17 => .array .int
  | 18 => .int
  | 19 => .int
  | 20 => .boolean
  | 21 => .array .int
  | 22 => .array .boolean
  | 23 => .array .boolean
  | 24 => .array .boolean
  | 25 => .int
  | 26 => .array .int
  | 27 => .array .int
  | 28 => .array .int
  | 29 => .array .int
  | 30 => .boolean
  | 31 => .array .int
  | 32 => .array .int
  | _ => .long
abbrev wsX80 : List Cond := u_ws RX8 TX8 34
theorem nmX8 : ∀ a, a < 34 → ∀ b, b < 34 → a ≠ b → (TX8 a).2.1 ≠ (TX8 b).2.1 := by decide +kernel
theorem tyX8_ok : ∀ k, k < 34 → parseFieldDescriptor (TX8 k).2.2.1 = some (tyX8 k) := by decide +kernel
abbrev cX8_init : ByteArray := prog_10_method_1_code
def yX8_init : MethodName := ⟨RX8, "<init>", "()V"⟩
abbrev cX8_lies : ByteArray := prog_10_method_3_code
def yX8_lies : MethodName := ⟨RX8, "lies", "(III)Z"⟩
abbrev cX8_isReign : ByteArray := prog_10_method_4_code
def yX8_isReign : MethodName := ⟨RX8, "isReign", "(I)Z"⟩
abbrev cX8_isEdition : ByteArray := prog_10_method_5_code
def yX8_isEdition : MethodName := ⟨RX8, "isEdition", "(I)Z"⟩
abbrev cX8_isYear : ByteArray := prog_10_method_6_code
def yX8_isYear : MethodName := ⟨RX8, "isYear", "(I)Z"⟩
abbrev cX8_lastOf : ByteArray := prog_10_method_7_code
def yX8_lastOf : MethodName := ⟨RX8, "lastOf", "(I)I"⟩
abbrev cX8_isMisread : ByteArray := prog_10_method_8_code
def yX8_isMisread : MethodName := ⟨RX8, "isMisread", "(I)Z"⟩
abbrev cX8_reign : ByteArray := prog_10_method_9_code
def yX8_reign : MethodName := ⟨RX8, "reign", "(IIIII)I"⟩
abbrev cX8_aboutOf : ByteArray := prog_10_method_10_code
def yX8_aboutOf : MethodName := ⟨RX8, "aboutOf", "(II)I"⟩
abbrev cX8_about : ByteArray := prog_10_method_11_code
def yX8_about : MethodName := ⟨RX8, "about", "(II)I"⟩
abbrev cX8_as : ByteArray := prog_10_method_12_code
def yX8_as : MethodName := ⟨RX8, "as", "(II)I"⟩
abbrev cX8_otherLength : ByteArray := prog_10_method_13_code
def yX8_otherLength : MethodName := ⟨RX8, "otherLength", "(II)I"⟩
abbrev cX8_leastOf : ByteArray := prog_10_method_14_code
def yX8_leastOf : MethodName := ⟨RX8, "leastOf", "(II)I"⟩
abbrev cX8_mostOf : ByteArray := prog_10_method_15_code
def yX8_mostOf : MethodName := ⟨RX8, "mostOf", "(II)I"⟩
abbrev cX8_lengthsOf : ByteArray := prog_10_method_16_code
def yX8_lengthsOf : MethodName := ⟨RX8, "lengthsOf", "(II)I"⟩
abbrev cX8_lasts : ByteArray := prog_10_method_17_code
def yX8_lasts : MethodName := ⟨RX8, "lasts", "(III)I"⟩
abbrev cX8_number : ByteArray := prog_10_method_18_code
def yX8_number : MethodName := ⟨RX8, "number", "(II)I"⟩
abbrev cX8_come : ByteArray := prog_10_method_19_code
def yX8_come : MethodName := ⟨RX8, "come", "(IIIIIII)I"⟩
abbrev cX8_isXth : ByteArray := prog_10_method_20_code
def yX8_isXth : MethodName := ⟨RX8, "isXth", "(I)Z"⟩
abbrev cX8_tie : ByteArray := prog_10_method_21_code
def yX8_tie : MethodName := ⟨RX8, "tie", "(IIIIII)I"⟩
abbrev cX8_sky : ByteArray := prog_10_method_22_code
def yX8_sky : MethodName := ⟨RX8, "sky", "(IIIIII)I"⟩
abbrev cX8_ring : ByteArray := prog_10_method_23_code
def yX8_ring : MethodName := ⟨RX8, "ring", "(IIII)I"⟩
abbrev cX8_letter : ByteArray := prog_10_method_24_code
def yX8_letter : MethodName := ⟨RX8, "letter", "(IIIII)I"⟩
abbrev cX8_isTie : ByteArray := prog_10_method_25_code
def yX8_isTie : MethodName := ⟨RX8, "isTie", "(I)Z"⟩
abbrev cX8_tied : ByteArray := prog_10_method_26_code
def yX8_tied : MethodName := ⟨RX8, "tied", "(II)I"⟩
abbrev cX8_undo : ByteArray := prog_10_method_27_code
def yX8_undo : MethodName := ⟨RX8, "undo", "()I"⟩
abbrev cX8_letters : ByteArray := prog_10_method_28_code
def yX8_letters : MethodName := ⟨RX8, "letters", "(J)I"⟩
abbrev cX8_blank : ByteArray := prog_10_method_29_code
def yX8_blank : MethodName := ⟨RX8, "blank", "()I"⟩
abbrev cX8_isName : ByteArray := prog_10_method_30_code
def yX8_isName : MethodName := ⟨RX8, "isName", "(I)Z"⟩
abbrev cX8_next : ByteArray := prog_10_method_31_code
def yX8_next : MethodName := ⟨RX8, "next", "(III)I"⟩
abbrev cX8_readText : ByteArray := prog_10_method_32_code
def yX8_readText : MethodName := ⟨RX8, "readText", "()V"⟩
abbrev cX8_fault : ByteArray := prog_10_method_33_code
def yX8_fault : MethodName := ⟨RX8, "fault", "()I"⟩
abbrev cX8_isSchool : ByteArray := prog_10_method_34_code
def yX8_isSchool : MethodName := ⟨RX8, "isSchool", "(I)Z"⟩
abbrev cX8_text : ByteArray := prog_10_method_35_code
def yX8_text : MethodName := ⟨RX8, "text", "(I)I"⟩
abbrev cX8_strike : ByteArray := prog_10_method_36_code
def yX8_strike : MethodName := ⟨RX8, "strike", "(I)I"⟩
abbrev cX8_openGroup : ByteArray := prog_10_method_37_code
def yX8_openGroup : MethodName := ⟨RX8, "openGroup", "()V"⟩
abbrev cX8_factor : ByteArray := prog_10_method_38_code
def yX8_factor : MethodName := ⟨RX8, "factor", "(Z)V"⟩
abbrev cX8_placeOf : ByteArray := prog_10_method_39_code
def yX8_placeOf : MethodName := ⟨RX8, "placeOf", "(I)I"⟩
abbrev cX8_holds : ByteArray := prog_10_method_40_code
def yX8_holds : MethodName := ⟨RX8, "holds", "(I)Z"⟩
abbrev cX8_saysOf : ByteArray := prog_10_method_41_code
def yX8_saysOf : MethodName := ⟨RX8, "saysOf", "(III)I"⟩
abbrev cX8_countsOf : ByteArray := prog_10_method_42_code
def yX8_countsOf : MethodName := ⟨RX8, "countsOf", "(II)I"⟩
abbrev cX8_believesOf : ByteArray := prog_10_method_43_code
def yX8_believesOf : MethodName := ⟨RX8, "believesOf", "(II)I"⟩
abbrev cX8_counts : ByteArray := prog_10_method_44_code
def yX8_counts : MethodName := ⟨RX8, "counts", "(II)I"⟩
abbrev cX8_believes : ByteArray := prog_10_method_45_code
def yX8_believes : MethodName := ⟨RX8, "believes", "(II)I"⟩
abbrev cX8_isKnown : ByteArray := prog_10_method_46_code
def yX8_isKnown : MethodName := ⟨RX8, "isKnown", "(II)Z"⟩
abbrev cX8_tiesOf : ByteArray := prog_10_method_47_code
def yX8_tiesOf : MethodName := ⟨RX8, "tiesOf", "(II)I"⟩
abbrev cX8_bind : ByteArray := prog_10_method_48_code
def yX8_bind : MethodName := ⟨RX8, "bind", "(IIII)V"⟩
abbrev cX8_closeWays : ByteArray := prog_10_method_49_code
def yX8_closeWays : MethodName := ⟨RX8, "closeWays", "()Z"⟩
abbrev cX8_layChoice : ByteArray := prog_10_method_50_code
def yX8_layChoice : MethodName := ⟨RX8, "layChoice", "(II)Z"⟩
abbrev cX8_misreadAhead : ByteArray := prog_10_method_51_code
def yX8_misreadAhead : MethodName := ⟨RX8, "misreadAhead", "(I)I"⟩
abbrev cX8_layTie : ByteArray := prog_10_method_52_code
def yX8_layTie : MethodName := ⟨RX8, "layTie", "(II)V"⟩
abbrev cX8_solve : ByteArray := prog_10_method_53_code
def yX8_solve : MethodName := ⟨RX8, "solve", "(IIII)V"⟩
abbrev cX8_take : ByteArray := prog_10_method_54_code
def yX8_take : MethodName := ⟨RX8, "take", "(I)V"⟩
abbrev cX8_can : ByteArray := prog_10_method_55_code
def yX8_can : MethodName := ⟨RX8, "can", "(II)I"⟩
abbrev cX8_span : ByteArray := prog_10_method_56_code
def yX8_span : MethodName := ⟨RX8, "span", "(IIII)I"⟩
abbrev cX8_held : ByteArray := prog_10_method_57_code
def yX8_held : MethodName := ⟨RX8, "held", "(IIII)I"⟩
abbrev cX8_ones : ByteArray := prog_10_method_58_code
def yX8_ones : MethodName := ⟨RX8, "ones", "(I)I"⟩
abbrev cX8_doubt : ByteArray := prog_10_method_59_code
def yX8_doubt : MethodName := ⟨RX8, "doubt", "(III)I"⟩
abbrev cX8_floatsOf : ByteArray := prog_10_method_60_code
def yX8_floatsOf : MethodName := ⟨RX8, "floatsOf", "(II)I"⟩
abbrev cX8_floats : ByteArray := prog_10_method_61_code
def yX8_floats : MethodName := ⟨RX8, "floats", "(II)I"⟩
abbrev cX8_openNow : ByteArray := prog_10_method_62_code
def yX8_openNow : MethodName := ⟨RX8, "openNow", "(I)I"⟩
abbrev cX8_open : ByteArray := prog_10_method_63_code
def yX8_open : MethodName := ⟨RX8, "open", "(II)I"⟩
abbrev cX8_part : ByteArray := prog_10_method_64_code
def yX8_part : MethodName := ⟨RX8, "part", "()I"⟩
abbrev cX8_wish : ByteArray := prog_10_method_65_code
def yX8_wish : MethodName := ⟨RX8, "wish", "(IIIII)I"⟩
abbrev cX8_closesOf : ByteArray := prog_10_method_66_code
def yX8_closesOf : MethodName := ⟨RX8, "closesOf", "(III)I"⟩
abbrev cX8_closes : ByteArray := prog_10_method_67_code
def yX8_closes : MethodName := ⟨RX8, "closes", "(III)I"⟩
abbrev cX8_best : ByteArray := prog_10_method_68_code
def yX8_best : MethodName := ⟨RX8, "best", "(II)I"⟩
abbrev cX8_tell : ByteArray := prog_10_method_69_code
def yX8_tell : MethodName := ⟨RX8, "tell", "(II)I"⟩
abbrev cX8_mayLast : ByteArray := prog_10_method_70_code
def yX8_mayLast : MethodName := ⟨RX8, "mayLast", "(III)Z"⟩
abbrev cX8_holdsTold : ByteArray := prog_10_method_71_code
def yX8_holdsTold : MethodName := ⟨RX8, "holdsTold", "(I)Z"⟩
abbrev cX8_judge : ByteArray := prog_10_method_72_code
def yX8_judge : MethodName := ⟨RX8, "judge", "(I)I"⟩
abbrev cX8_howMany : ByteArray := prog_10_method_73_code
def yX8_howMany : MethodName := ⟨RX8, "howMany", "(I)I"⟩
abbrev cX8_count : ByteArray := prog_10_method_74_code
def yX8_count : MethodName := ⟨RX8, "count", "(I)I"⟩
abbrev cX8_mix : ByteArray := prog_10_method_75_code
def yX8_mix : MethodName := ⟨RX8, "mix", "(J)V"⟩
abbrev cX8_digest : ByteArray := prog_10_method_76_code
def yX8_digest : MethodName := ⟨RX8, "digest", "()J"⟩
def RL : String := "ReignLaddersLaw"
abbrev cL_law : ByteArray := code
abbrev vwCl : List vw_C := [(RX0, TX0, 2), (RX1, TX1, 18), (RX2, TX2, 4), (RX3, TX3, 5), (RX4, TX4, 3), (RX5, TX5, 7), (RX6, TX6, 5), (RX7, TX7, 9), (RX8, TX8, 34)]
end
section
/-! whole numbers for machine ints -/
abbrev inR (a : Int) : Prop := -2147483648 ≤ a ∧ a ≤ 2147483647
abbrev inL (a : Int) : Prop := -9223372036854775808 ≤ a ∧ a ≤ 9223372036854775807
abbrev iv (a : Int) : Value := .int (Int32.ofInt a)
abbrev lq (a : Int) : Value := .long (Int64.ofInt a)
theorem iv_min : Int32.minValue.toInt = -2147483648 := by decide
theorem iv_max : Int32.maxValue.toInt = 2147483647 := by decide
theorem iv_toInt {a : Int} (h : inR a) : (Int32.ofInt a).toInt = a := Int32.toInt_ofInt_of_le (by omega) (by omega)
theorem iv_le {a b : Int} (ha : inR a) (hb : inR b) : Int32.ofInt a ≤ Int32.ofInt b ↔ a ≤ b := Int32.ofInt_le_iff_le (by rw [iv_min]; exact ha.1) (by rw [iv_max]; exact ha.2) (by rw [iv_min]; exact hb.1) (by rw [iv_max]; exact hb.2)
theorem iv_lt {a b : Int} (ha : inR a) (hb : inR b) : Int32.ofInt a < Int32.ofInt b ↔ a < b := Int32.ofInt_lt_iff_lt (by rw [iv_min]; exact ha.1) (by rw [iv_max]; exact ha.2) (by rw [iv_min]; exact hb.1) (by rw [iv_max]; exact hb.2)
theorem iv_eq {a b : Int} (ha : inR a) (hb : inR b) : Int32.ofInt a = Int32.ofInt b ↔ a = b := ⟨fun h => by have := congrArg Int32.toInt h; rwa [iv_toInt ha, iv_toInt hb] at this, fun h => by rw [h]⟩
theorem iv_zero : (0 : Int32) = Int32.ofInt 0 := by decide
theorem iv_in {i : Int} {n : Nat} (h : inR i) (h0 : 0 ≤ i) (h1 : i < n) : vp_in (Int32.ofInt i) n := vp_in_iff.mpr (by rw [iv_toInt h]; exact ⟨h0, h1⟩)
theorem iv_clamp {i : Int} (h : inR i) : (Int32.ofInt i).toNatClampNeg = i.toNat := Int32.toNatClampNeg_ofInt_of_le (by omega) (by omega)
/-! the tables' words that a contract carries -/
def tb0 : List Cond := lw_tbl.filter goodWord
theorem tb_in {w : Cond} (i : Nat) (h : lw_tbl[i]? = some w) (hg : goodWord w = true) : w ∈ tb0 := List.mem_filter.mpr ⟨List.mem_of_getElem? h, hg⟩
theorem tb_good (y : MethodName) (cc : ByteArray) (n : Nat) (ret : Option FieldType) {Ts : List Cond} (hT : ∀ w ∈ tb0, w ∈ Ts) (hc : Cond.code y cc n ret ∈ tb0) : GoodIn Ts (Cond.code y cc n ret :: tb0) := by
  intro w hw
  rcases List.mem_cons.mp hw with h | h
  · subst h
    exact ⟨hT _ hc, good_of_word (List.mem_filter.mp hc).2⟩
  · exact ⟨hT _ h, good_of_word (List.mem_filter.mp h).2⟩
def nst : List (String × Nat × MethodName × String) := lw_tbl.filterMap fun c => match c with
  | .methodLinkNest a i x h => some (a, i, x, h)
  | _ => none
def NWs (U : State) : Prop := ∀ q ∈ nst, va_Nw (.methodLinkNest q.1 q.2.1 q.2.2.1 q.2.2.2) U
theorem NWs.warm {s U : State} (hW : s.WarmedH U.vm) (h : NWs s) : NWs U := fun q hq => va_Nw.warmM hW (h q hq)
theorem NWs.same {u U : State} (hv : u.vm = U.vm) (h : NWs u) : NWs U := fun q hq => va_Nw.same rfl hv (h q hq)
/-! a side's world: cell and place to a whole number; its shape: arrays (kind of element, length) and objects (class, a code for each field: 0 int, 1 long, 2 boolean, k + 3 a reference to cell k) -/
abbrev Wd : Type := Nat → Int → Int
abbrev Shp : Type := (Nat × Nat) ⊕ (Nat × List Nat)
abbrev Gc : Type := Launch × (Nat → Nat) × va_G × (Nat → ClassId) × (Nat → Shp) × Nat
abbrev gl (G : Gc) : Launch := G.1
abbrev ga (G : Gc) : Nat → Nat := G.2.1
abbrev gD (G : Gc) : va_G := G.2.2.1
abbrev gt (G : Gc) : Nat → ClassId := G.2.2.2.1
abbrev gS (G : Gc) : Nat → Shp := G.2.2.2.2.1
abbrev gn (G : Gc) : Nat := G.2.2.2.2.2
abbrev gT (G : Gc) : List (ClassId × FieldType) := [(gt G 0, .int), (gt G 1, .byte), (gt G 2, .boolean)]
def fv (G : Gc) (w : Wd) (k : Nat) (j : Nat) (c : Nat) : Value := match c with
  | 0 => iv (w k j)
  | 1 => lq (w k j)
  | 2 => iv (w k j)
  | t + 3 => .ref (ga G t)
def fvs (G : Gc) (w : Wd) (k : Nat) : Nat → List Nat → List Value
  | _, [] => []
  | j, c :: t => fv G w k j c :: fvs G w k (j + 1) t
theorem fvs_get (G : Gc) (w : Wd) (k : Nat) : ∀ (l : List Nat) (j i : Nat), (fvs G w k j l)[i]? = (l[i]?).map (fun c => fv G w k (j + i) c)
  | [], _, i => by simp [fvs]
  | c :: t, j, 0 => by simp [fvs]
  | c :: t, j, i + 1 => by simp only [fvs, List.getElem?_cons_succ, fvs_get G w k t (j + 1) i]; rw [show j + 1 + i = j + (i + 1) by omega]
theorem fvs_len (G : Gc) (w : Wd) (k : Nat) : ∀ (l : List Nat) (j : Nat), (fvs G w k j l).length = l.length
  | [], _ => rfl
  | c :: t, j => by simp only [fvs, List.length_cons, fvs_len G w k t (j + 1)]
def cel (G : Gc) (w : Wd) (k : Nat) : va_E := match gS G k with
  | .inl q => .inl (gt G q.1, (q.2, .inl (fun j => Int32.ofInt (w k (j : Int)))))
  | .inr q => .inr (q.1, fvs G w k 0 q.2)
def cels (G : Gc) (w : Wd) : va_W := (List.range (gn G)).map fun k => (ga G k, cel G w k)
theorem cels_get {G : Gc} {w : Wd} {k : Nat} (h : k < gn G) : (cels G w)[k]? = some (ga G k, cel G w k) := by simp [cels, h]
theorem cel_A {G : Gc} {w : Wd} {k t n : Nat} (h : gS G k = .inl (t, n)) : cel G w k = .inl (gt G t, (n, .inl (fun j => Int32.ofInt (w k (j : Int))))) := by simp only [cel, h]
theorem cel_O {G : Gc} {w : Wd} {k ci : Nat} {fs : List Nat} (h : gS G k = .inr (ci, fs)) : cel G w k = .inr (ci, fvs G w k 0 fs) := by simp only [cel, h]
def up (w : Wd) (k : Nat) (i v : Int) : Wd := fun k' i' => if k' = k ∧ i' = i then v else w k' i'
theorem up_self (w : Wd) (k : Nat) (i v : Int) : up w k i v k i = v := by simp [up]
theorem up_cell {w : Wd} {k k' : Nat} {i v : Int} (h : k' ≠ k) : up w k i v k' = w k' := by funext j; simp [up, h]
theorem up_ne {w : Wd} {k k' : Nat} {i j v : Int} (h : ¬ (k' = k ∧ j = i)) : up w k i v k' j = w k' j := by simp [up, h]
theorem cel_ext {G : Gc} {w w' : Wd} {k : Nat} (h : ∀ i, w' k i = w k i) : cel G w' k = cel G w k := by
  have e : w' k = w k := funext h
  unfold cel
  cases gS G k with
  | inl q => simp only [e]
  | inr q =>
    have : ∀ (l : List Nat) (j : Nat), fvs G w' k j l = fvs G w k j l := by
      intro l
      induction l with
      | nil => intro j; rfl
      | cons c t ih => intro j; simp only [fvs, ih]; congr 1; unfold fv; simp only [e]
    simp only [this]
theorem cels_upd {G : Gc} {w w' : Wd} {k : Nat} {e : va_E} (hw : ∀ k', k' ≠ k → w' k' = w k') (he : cel G w' k = e) : (cels G w).set k (ga G k, e) = cels G w' := by
  apply List.ext_getElem?
  intro j
  by_cases hj : j < gn G
  · by_cases hk : j = k
    · subst hk
      rw [List.getElem?_set_self (by simp [cels]; exact hj), cels_get hj, he]
    · rw [List.getElem?_set_ne (Ne.symm hk), cels_get hj, cels_get hj, cel_ext (fun i => congrFun (hw j hk) i)]
  · rw [List.getElem?_eq_none (by simp [cels]; omega), List.getElem?_eq_none (by simp [cels]; omega)]
/-! ranges: what a cell holds is in the range of its kind -/
def rT (t : Nat) (a : Int) : Prop := match t with
  | 0 => inR a
  | 1 => -128 ≤ a ∧ a ≤ 127
  | _ => 0 ≤ a ∧ a ≤ 1
def rF (c : Nat) (a : Int) : Prop := match c with
  | 0 => inR a
  | 1 => inL a
  | 2 => 0 ≤ a ∧ a ≤ 1
  | _ => True
def okW (G : Gc) (w : Wd) : Prop := (∀ k t n, gS G k = .inl (t, n) → ∀ i : Int, 0 ≤ i → i < n → rT t (w k i)) ∧ ∀ k ci fs, gS G k = .inr (ci, fs) → ∀ j c, fs[j]? = some c → rF c (w k (j : Nat))
theorem okW.upA {G : Gc} {w : Wd} (h : okW G w) {k t n : Nat} (hs : gS G k = .inl (t, n)) {i v : Int} (hv : rT t v) : okW G (up w k i v) := by
  refine ⟨fun k' t' n' hs' j h0 h1 => ?_, fun k' ci fs hs' j c hc => ?_⟩
  · by_cases e : k' = k ∧ j = i
    · obtain ⟨rfl, rfl⟩ := e
      rw [hs] at hs'
      cases hs'
      rw [up_self]; exact hv
    · rw [up_ne e]; exact h.1 k' t' n' hs' j h0 h1
  · by_cases e : k' = k
    · subst e
      rw [hs] at hs'
      cases hs'
    · rw [up_ne (fun q => e q.1)]; exact h.2 k' ci fs hs' j c hc
theorem okW.upF {G : Gc} {w : Wd} (h : okW G w) {k ci j c : Nat} {fs : List Nat} (hs : gS G k = .inr (ci, fs)) (hc : fs[j]? = some c) {v : Int} (hv : rF c v) : okW G (up w k (j : Nat) v) := by
  refine ⟨fun k' t' n' hs' i h0 h1 => ?_, fun k' ci' fs' hs' j' c' hc' => ?_⟩
  · by_cases e : k' = k
    · subst e
      rw [hs] at hs'
      cases hs'
    · rw [up_ne (fun q => e q.1)]; exact h.1 k' t' n' hs' i h0 h1
  · by_cases e : k' = k ∧ ((j' : Nat) : Int) = (j : Nat)
    · obtain ⟨rfl, e2⟩ := e
      have : j' = j := by omega
      subst this
      rw [hs] at hs'
      cases hs'
      rw [hc] at hc'
      cases hc'
      rw [up_self]; exact hv
    · rw [up_ne e]; exact h.2 k' ci' fs' hs' j' c' hc'
/-! locals, by place -/
def lg : List (Option Value) → Nat → Option Value
  | [], _ => none
  | x :: _, 0 => x
  | _ :: t, i + 1 => lg t i
def lst : List (Option Value) → Nat → Option Value → List (Option Value)
  | [], 0, v => [v]
  | [], i + 1, v => none :: lst [] i v
  | _ :: t, 0, v => v :: t
  | x :: t, i + 1, v => x :: lst t i v
theorem lg_nil (i : Nat) : lg [] i = none := by cases i <;> rfl
theorem lg_lst : ∀ (i : Nat) (l : List (Option Value)) (v : Option Value) (j : Nat), lg (lst l i v) j = if j = i then v else lg l j
  | 0, [], v, 0 => rfl
  | 0, [], v, j + 1 => by simp [lst, lg]
  | 0, x :: t, v, 0 => rfl
  | 0, x :: t, v, j + 1 => by simp [lst, lg]
  | i + 1, [], v, 0 => by simp [lst, lg]
  | i + 1, [], v, j + 1 => by simp [lst, lg, lg_lst i [] v j, lg_nil]
  | i + 1, x :: t, v, 0 => by simp [lst, lg]
  | i + 1, x :: t, v, j + 1 => by simp [lst, lg, lg_lst i t v j]
def isL (v : Option Value) : Bool := match v with
  | some (.long _) => true
  | some (.double _) => true
  | _ => false
def okst (l : List (Option Value)) (i : Nat) : Bool := match i with
  | 0 => true
  | j + 1 => !(isL (lg l j))
theorem isL_cat {v : Value} (h : v.category = 2) : isL (some v) = true := by cases v <;> simp [Value.category, isL] at h ⊢
def lh (ls : Array Slot) (nL : Nat) (l : List (Option Value)) : Prop := ls.size = nL ∧ lv_wf ls ∧ ∀ i v, lg l i = some v → ls[i]? = some (.val v)
def asc : Nat → List (Option Value) → List (Nat × Value)
  | _, [] => []
  | k, none :: t => asc (k + 1) t
  | k, some v :: t => (k, v) :: asc (k + 1) t
theorem asc_mem : ∀ (l : List (Option Value)) (k i : Nat) (v : Value), (i, v) ∈ asc k l ↔ ∃ j, i = k + j ∧ lg l j = some v
  | [], k, i, v => by simp [asc, lg_nil]
  | none :: t, k, i, v => by
    rw [show asc k (none :: t) = asc (k + 1) t from rfl, asc_mem t (k + 1) i v]
    constructor
    · rintro ⟨j, h1, h2⟩; exact ⟨j + 1, by omega, h2⟩
    · rintro ⟨j, h1, h2⟩
      cases j with
      | zero => simp [lg] at h2
      | succ j => exact ⟨j, by omega, h2⟩
  | some u :: t, k, i, v => by
    rw [show asc k (some u :: t) = (k, u) :: asc (k + 1) t from rfl, List.mem_cons, asc_mem t (k + 1) i v]
    constructor
    · rintro (h | ⟨j, h1, h2⟩)
      · cases h; exact ⟨0, by omega, rfl⟩
      · exact ⟨j + 1, by omega, h2⟩
    · rintro ⟨j, h1, h2⟩
      cases j with
      | zero => simp only [lg, Option.some.injEq] at h2; left; rw [h1, h2]; rfl
      | succ j => right; exact ⟨j, by omega, h2⟩
theorem lh.has {ls : Array Slot} {nL : Nat} {l : List (Option Value)} (h : lh ls nL l) : lv_has ls nL (asc 0 l) := ⟨h.1, h.2.1, fun q hq => by
  obtain ⟨i, v⟩ := q
  obtain ⟨j, h1, h2⟩ := (asc_mem l 0 i v).mp hq
  have : i = j := by omega
  subst this
  exact h.2.2 _ _ h2⟩
theorem lh.at {ls : Array Slot} {nL : Nat} {l : List (Option Value)} (h : lh ls nL l) {i : Nat} {v : Value} (e : lg l i = some v) : ls[i]? = some (.val v) := h.2.2 i v e
theorem lh_st1 {ls' : Array Slot} {nL i : Nat} {v : Value} {l : List (Option Value)} (ho : okst l i = true) (h : lv_has ls' nL ((i, v) :: (asc 0 l).filter (fun q => !(q.1 == i) && !(q.1 + 1 == i && q.2.category == 2)))) : lh ls' nL (lst l i (some v)) := by
  refine ⟨h.1, h.2.1, fun j u hj => ?_⟩
  rw [lg_lst] at hj
  by_cases e : j = i
  · rw [if_pos e] at hj
    cases hj
    subst e
    exact h.2.2 (j, v) List.mem_cons_self
  · rw [if_neg e] at hj
    refine h.2.2 (j, u) (List.mem_cons_of_mem _ (List.mem_filter.mpr ⟨(asc_mem l 0 j u).mpr ⟨j, by omega, hj⟩, ?_⟩))
    have h1 : (j == i) = false := by simpa using e
    by_cases h2 : j + 1 = i
    · subst h2
      have h3 : ¬ u.category = 2 := by
        intro hc
        simp only [okst, hj, isL_cat hc] at ho
        cases ho
      simp [e, h3]
    · simp [e, h2]
theorem lh_st2 {ls' : Array Slot} {nL i : Nat} {v : Value} {l : List (Option Value)} (ho : okst l i = true) (h : lv_has ls' nL ((i, v) :: (asc 0 l).filter (fun q => !(q.1 == i) && (!(q.1 == i + 1) && !(q.1 + 1 == i && q.2.category == 2))))) : lh ls' nL (lst (lst l (i + 1) none) i (some v)) := by
  refine ⟨h.1, h.2.1, fun j u hj => ?_⟩
  rw [lg_lst] at hj
  by_cases e : j = i
  · rw [if_pos e] at hj
    cases hj
    subst e
    exact h.2.2 (j, v) List.mem_cons_self
  · rw [if_neg e, lg_lst] at hj
    by_cases e2 : j = i + 1
    · rw [if_pos e2] at hj; cases hj
    · rw [if_neg e2] at hj
      refine h.2.2 (j, u) (List.mem_cons_of_mem _ (List.mem_filter.mpr ⟨(asc_mem l 0 j u).mpr ⟨j, by omega, hj⟩, ?_⟩))
      by_cases h2 : j + 1 = i
      · subst h2
        have h3 : ¬ u.category = 2 := by
          intro hc
          simp only [okst, hj, isL_cat hc] at ho
          cases ho
        simp [e, e2, h3]
      · simp [e, e2, h2]
def ent : List Value → List (Option Value)
  | [] => []
  | v :: t => if v.category = 2 then some v :: none :: ent t else some v :: ent t
theorem ent_args : ∀ (vs : List Value) (k i : Nat) (v : Value), lg (ent vs) i = some v → (k + i, v) ∈ lv_args k vs
  | [], k, i, v => by simp [ent, lg_nil]
  | u :: t, k, i, v => by
    intro h
    by_cases hc : u.category = 2
    · rw [ent, if_pos hc] at h
      rw [lv_args, if_pos hc]
      match i, h with
      | 0, h => simp only [lg, Option.some.injEq] at h; subst h; exact List.mem_cons_self
      | 1, h => simp [lg] at h
      | i + 2, h => exact List.mem_cons_of_mem _ (by have := ent_args t (k + 2) i v h; rwa [show k + 2 + i = k + (i + 2) by omega] at this)
    · rw [ent, if_neg hc] at h
      rw [lv_args, if_neg hc]
      match i, h with
      | 0, h => simp only [lg, Option.some.injEq] at h; subst h; exact List.mem_cons_self
      | i + 1, h => exact List.mem_cons_of_mem _ (by have := ent_args t (k + 1) i v h; rwa [show k + 1 + i = k + (i + 1) by omega] at this)
theorem lh_ent {ls : Array Slot} {nL : Nat} {vs : List Value} (h : lv_has ls nL (lv_args 0 vs)) : lh ls nL (ent vs) := ⟨h.1, h.2.1, fun i v e => h.2.2 (i, v) (by have := ent_args vs 0 i v e; rwa [Nat.zero_add] at this)⟩
/-! the judgement -/
abbrev Xc : Type := Program × Env × Room × State × MethodId × Array Value × List Frame × Method × Code × (Addr → Prop)
abbrev xp (X : Xc) : Program := X.1
abbrev xe (X : Xc) : Env := X.2.1
abbrev xR (X : Xc) : Room := X.2.2.1
abbrev xs (X : Xc) : State := X.2.2.2.1
abbrev xm (X : Xc) : MethodId := X.2.2.2.2.1
abbrev xa (X : Xc) : Array Value := X.2.2.2.2.2.1
abbrev xb (X : Xc) : List Frame := X.2.2.2.2.2.2.1
abbrev xt (X : Xc) : Method := X.2.2.2.2.2.2.2.1
abbrev xc (X : Xc) : Code := X.2.2.2.2.2.2.2.2.1
abbrev xA (X : Xc) : Addr → Prop := X.2.2.2.2.2.2.2.2.2
/-- what a method leaves: an answer and a world of which post holds; nothing else has changed -/
def Qg (G : Gc) (post : Option Value → Wd → Prop) (A : Addr → Prop) : Array Value → State → Outcome → State → Prop := fun _ st oc t =>
  (∃ (v : Option Value) (w : Wd), oc = .returned v ∧ post v w ∧ okW G w ∧ va_P (gD G) vwCl (cels G w) t.heap ∧ va_K (gD G) vwCl (gT G) t ∧ va_D A (cels G w)) ∧ va_F A st t
def Jw (G : Gc) (X : Xc) (post : Option Value → Wd → Prop) (pc : Nat) (lv : List (Option Value)) (st : List Value) (w : Wd) : Prop :=
  ∀ (H : Heap) (locs : List Loc) (ls : Array Slot), va_P (gD G) vwCl (cels G w) H → va_D (xA X) (cels G w) → va_S (xA X) (xs X).heap H locs → okW G w → lh ls (xc X).maxLocals lv →
    W (xp X) (gl G) (xe X) (xR X) (xs X) (xm X) (xa X) (xb X) (xt X) (xc X) H locs 0 0 (MQ (xb X) (Qg G post (xA X)) (xa X) (xs X) 0 0 (xA X)) (F0 (xm X) pc ls st)
/-- what holds all along a method's walk: own: its class, cc: its code, nL: its locals, d: its depth, ret: its result -/
def Fx (G : Gc) (X : Xc) (own : String) (cc : ByteArray) (nL d : Nat) (ret : Option FieldType) : Prop :=
  (xp X).tables.exec = Jvm.exec ∧ (xc X).code = cc ∧ (xc X).maxLocals = nL ∧ (xs X).vm.findClass own = some (xm X).cls ∧ (∀ w ∈ tb0, w.before (xa X) (xs X) = true) ∧ va_K (gD G) vwCl (gT G) (xs X) ∧ NWs (xs X) ∧
  (xt X).sig.returnType = ret ∧ (xt X).locks = false ∧ (xR X).frames = d ∧ (xR X).locals = 40 * d ∧ (xR X).cells = 0 ∧ (xR X).slots = 0 ∧ ∀ q, (xs X).heap.size ≤ q → xA X q
/-- a method's contract, for the answer and the world that it comes to -/
def Sp (G : Gc) (d : Nat) (y : MethodName) (cc : ByteArray) (nL : Nat) (ret : Option FieldType) (args : List Value) (w : Wd) (post : Option Value → Wd → Prop) : Prop := okW G w → ∀ sz : Nat,
  Met (gl G) y (Cond.code y cc nL ret :: tb0) { frames := d, cells := 0, slots := 0, locals := 40 * d } (va_Pc args (fun U => U.heap.size = sz ∧ va_P (gD G) vwCl (cels G w) U.heap ∧ va_K (gD G) vwCl (gT G) U ∧ NWs U ∧ va_D (fun _ => True) (cels G w)))
    (Qg G post (va_A (cels G w) sz)) 0 0 (va_A (cels G w) sz)
theorem Sp.of {G : Gc} {d : Nat} {y : MethodName} {cc : ByteArray} {nL : Nat} {ret : Option FieldType} {args : List Value} {w : Wd} {post : Option Value → Wd → Prop} (hy : plainName y.cls = true) (hn : (lg_sl args).length ≤ nL)
    (k : ∀ X : Xc, Fx G X y.cls cc nL d ret → Jw G X post 0 (ent args) [] w) : Sp G d y cc nL ret args w post := by
  intro hO sz
  refine Met.ofW (cc := cc) (maxL := nL) (ret := ret) hy rfl ?_
  intro p e s m a below meth c s₁ B hml hv
  obtain ⟨rfl, hsz, hP, hK, hN, hD0⟩ := hv
  have hts := atoms_spec (ws := Cond.code y cc nL ret :: tb0) B.pre
  have hown : s.vm.findClass y.cls = some m.cls := findClass_of_methodNamed B.named
  subst hsz
  have hD := hD0.self (sz := s.heap.size)
  have hS : va_S (va_A (cels G w) s.heap.size) s.heap s.heap [] := va_S.rf
  have hl := lv_entry args (n := nL) hn
  rw [lg_entry_eq]
  exact k (p, e, { frames := d, cells := 0, slots := 0, locals := 40 * d }, s, m, args.toArray, below, meth, c, va_A (cels G w) s.heap.size)
    ⟨B.exec, B.bytes, hml, hown, fun q hq => hts q (List.mem_cons_of_mem _ hq), hK, hN, B.returns, B.notSynchronized, rfl, rfl, rfl, rfl, fun q h => Or.inr h⟩ s.heap [] _ hP hD hS hO (lh_ent (by rw [show (xc (p, e, ({ frames := d, cells := 0, slots := 0, locals := 40 * d } : Room), s, m, args.toArray, below, meth, c, va_A (cels G w) s.heap.size)).maxLocals = nL from hml]; exact hl))
theorem Sp.mono {G : Gc} {d : Nat} {y : MethodName} {cc : ByteArray} {nL : Nat} {ret : Option FieldType} {args : List Value} {w : Wd} {post post' : Option Value → Wd → Prop} (h : Sp G d y cc nL ret args w post) (hp : ∀ v u, post v u → post' v u) : Sp G d y cc nL ret args w post' := by
  intro hO sz p e ha hc hk s m args below hf happ hP hK
  obtain ⟨t, o, h1, h2, h3, h4, h5⟩ := h hO sz p e ha hc hk s m args below hf happ hP hK
  obtain ⟨⟨v, u, a1, a2, a3⟩, a4⟩ := h4
  exact ⟨t, o, h1, h2, h3, ⟨⟨v, u, a1, hp v u a2, a3⟩, a4⟩, h5⟩
end
section
theorem iv_tdiv {a b : Int} (ha : inR a) (hb : inR b) : Int32.ofInt (a.tdiv b) = Int32.ofInt a / Int32.ofInt b := Int32.ofInt_tdiv (by rw [iv_min]; exact ha.1) (by rw [iv_max]; exact ha.2) (by rw [iv_min]; exact hb.1) (by rw [iv_max]; exact hb.2)
section JR
variable {G : Gc} {X : Xc} {own : String} {cc : ByteArray} {nL d : Nat} {ret : Option FieldType} {post : Option Value → Wd → Prop} {pc : Nat} {lv : List (Option Value)} {rest : List Value} {w : Wd}
theorem jr_iconst (F : Fx G X own cc nL d ret) {n : Int} (hd : decode cc pc = .ok (.iconst n, 1))
    (k : Jw G X post (pc + 1) lv (iv n :: rest) w) : Jw G X post pc lv rest w := by
  intro H locs ls hP hD hS hO hl
  exact lv_iconst F.1 F.2.1 hd rfl (k H locs ls hP hD hS hO hl)
theorem jr_bipush (F : Fx G X own cc nL d ret) {n : Int} (hd : decode cc pc = .ok (.bipush n, 2)) (hv : (Int8.ofInt n).toInt32 = Int32.ofInt n)
    (k : Jw G X post (pc + 2) lv (iv n :: rest) w) : Jw G X post pc lv rest w := by
  intro H locs ls hP hD hS hO hl
  exact lv_bipush F.1 F.2.1 hd hv (k H locs ls hP hD hS hO hl)
theorem jr_sipush (F : Fx G X own cc nL d ret) {n : Int} (hd : decode cc pc = .ok (.sipush n, 3)) (hv : (Int16.ofInt n).toInt32 = Int32.ofInt n)
    (k : Jw G X post (pc + 3) lv (iv n :: rest) w) : Jw G X post pc lv rest w := by
  intro H locs ls hP hD hS hO hl
  exact lv_sipush F.1 F.2.1 hd hv (k H locs ls hP hD hS hO hl)
theorem jr_lconst (F : Fx G X own cc nL d ret) {n : Fin 2} {z : Int} (hd : decode cc pc = .ok (.lconst n, 1)) (hv : Int64.ofNat (n : Nat) = Int64.ofInt z)
    (k : Jw G X post (pc + 1) lv (lq z :: rest) w) : Jw G X post pc lv rest w := by
  intro H locs ls hP hD hS hO hl
  exact lv_lconst F.1 F.2.1 hd hv (k H locs ls hP hD hS hO hl)
theorem jr_ldc (F : Fx G X own cc nL d ret) {i : Nat} {z : Int} (hd : decode cc pc = .ok (.ldc i, 2)) (hw : Cond.constant own i (Int32.ofInt z) ∈ tb0)
    (k : Jw G X post (pc + 2) lv (iv z :: rest) w) : Jw G X post pc lv rest w := by
  intro H locs ls hP hD hS hO hl
  exact lv_ldc F.1 F.2.1 F.2.2.2.1 (F.2.2.2.2.1 _ hw) hd (k H locs ls hP hD hS hO hl)
theorem jr_ldcw (F : Fx G X own cc nL d ret) {i : Nat} {z : Int} (hd : decode cc pc = .ok (.ldc_w i, 3)) (hw : Cond.constant own i (Int32.ofInt z) ∈ tb0)
    (k : Jw G X post (pc + 3) lv (iv z :: rest) w) : Jw G X post pc lv rest w := by
  intro H locs ls hP hD hS hO hl
  exact lv_ldcw F.1 F.2.1 F.2.2.2.1 (F.2.2.2.2.1 _ hw) hd (k H locs ls hP hD hS hO hl)
theorem jr_ldc2 (F : Fx G X own cc nL d ret) {i : Nat} {z : Int} (hd : decode cc pc = .ok (.ldc2_w i, 3)) (hw : Cond.constantLong own i (Int64.ofInt z) ∈ tb0)
    (k : Jw G X post (pc + 3) lv (lq z :: rest) w) : Jw G X post pc lv rest w := by
  intro H locs ls hP hD hS hO hl
  exact lv_ldc2 F.1 F.2.1 F.2.2.2.1 (F.2.2.2.2.1 _ hw) hd (k H locs ls hP hD hS hO hl)
theorem jr_iload_n (F : Fx G X own cc nL d ret) {i : Fin 4} {x : Int32} (hd : decode cc pc = .ok (.iload_n i, 1)) (hl : lg lv (i : Nat) = some (.int x))
    (k : Jw G X post (pc + 1) lv (.int x :: rest) w) : Jw G X post pc lv rest w := by
  intro H locs ls hP hD hS hO hl'
  exact lv_iload_n F.1 F.2.1 hd rfl (hl'.at hl) (k H locs ls hP hD hS hO hl')
theorem jr_iload (F : Fx G X own cc nL d ret) {i : Nat} {x : Int32} (hd : decode cc pc = .ok (.iload i, 2)) (hl : lg lv i = some (.int x))
    (k : Jw G X post (pc + 2) lv (.int x :: rest) w) : Jw G X post pc lv rest w := by
  intro H locs ls hP hD hS hO hl'
  exact lv_iload F.1 F.2.1 hd (hl'.at hl) (k H locs ls hP hD hS hO hl')
theorem jr_lload_n (F : Fx G X own cc nL d ret) {i : Fin 4} {x : Int64} (hd : decode cc pc = .ok (.lload_n i, 1)) (hl : lg lv (i : Nat) = some (.long x))
    (k : Jw G X post (pc + 1) lv (.long x :: rest) w) : Jw G X post pc lv rest w := by
  intro H locs ls hP hD hS hO hl'
  exact lv_lload_n F.1 F.2.1 hd rfl (hl'.at hl) (k H locs ls hP hD hS hO hl')
theorem jr_lload (F : Fx G X own cc nL d ret) {i : Nat} {x : Int64} (hd : decode cc pc = .ok (.lload i, 2)) (hl : lg lv i = some (.long x))
    (k : Jw G X post (pc + 2) lv (.long x :: rest) w) : Jw G X post pc lv rest w := by
  intro H locs ls hP hD hS hO hl'
  exact lv_lload F.1 F.2.1 hd (hl'.at hl) (k H locs ls hP hD hS hO hl')
theorem jr_aload_n (F : Fx G X own cc nL d ret) {i : Fin 4} {x : Nat} (hd : decode cc pc = .ok (.aload_n i, 1)) (hl : lg lv (i : Nat) = some (.ref x))
    (k : Jw G X post (pc + 1) lv (.ref x :: rest) w) : Jw G X post pc lv rest w := by
  intro H locs ls hP hD hS hO hl'
  exact lv_aload_n F.1 F.2.1 hd rfl (hl'.at hl) (k H locs ls hP hD hS hO hl')
theorem jr_aload (F : Fx G X own cc nL d ret) {i : Nat} {x : Nat} (hd : decode cc pc = .ok (.aload i, 2)) (hl : lg lv i = some (.ref x))
    (k : Jw G X post (pc + 2) lv (.ref x :: rest) w) : Jw G X post pc lv rest w := by
  intro H locs ls hP hD hS hO hl'
  exact lv_aload F.1 F.2.1 hd (hl'.at hl) (k H locs ls hP hD hS hO hl')
theorem jr_istore_n (F : Fx G X own cc nL d ret) {i : Fin 4} {x : Int32} (hd : decode cc pc = .ok (.istore_n i, 1)) (hn : (i : Nat) < nL) (ho : okst lv (i : Nat) = true)
    (k : Jw G X post (pc + 1) (lst lv (i : Nat) (some (.int x))) rest w) : Jw G X post pc lv (.int x :: rest) w := by
  intro H locs ls hP hD hS hO hl
  exact lv_istore_n F.1 F.2.1 hd rfl hl.has (by rw [F.2.2.1]; exact hn) rfl (fun ls' h' => k H locs ls' hP hD hS hO (lh_st1 ho h'))
theorem jr_istore (F : Fx G X own cc nL d ret) {i : Nat} {x : Int32} (hd : decode cc pc = .ok (.istore i, 2)) (hn : i < nL) (ho : okst lv i = true)
    (k : Jw G X post (pc + 2) (lst lv i (some (.int x))) rest w) : Jw G X post pc lv (.int x :: rest) w := by
  intro H locs ls hP hD hS hO hl
  exact lv_istore F.1 F.2.1 hd hl.has (by rw [F.2.2.1]; exact hn) rfl (fun ls' h' => k H locs ls' hP hD hS hO (lh_st1 ho h'))
theorem jr_astore_n (F : Fx G X own cc nL d ret) {i : Fin 4} {x : Nat} (hd : decode cc pc = .ok (.astore_n i, 1)) (hn : (i : Nat) < nL) (ho : okst lv (i : Nat) = true)
    (k : Jw G X post (pc + 1) (lst lv (i : Nat) (some (.ref x))) rest w) : Jw G X post pc lv (.ref x :: rest) w := by
  intro H locs ls hP hD hS hO hl
  exact lv_astore_n F.1 F.2.1 hd rfl hl.has (by rw [F.2.2.1]; exact hn) rfl (fun ls' h' => k H locs ls' hP hD hS hO (lh_st1 ho h'))
theorem jr_astore (F : Fx G X own cc nL d ret) {i : Nat} {x : Nat} (hd : decode cc pc = .ok (.astore i, 2)) (hn : i < nL) (ho : okst lv i = true)
    (k : Jw G X post (pc + 2) (lst lv i (some (.ref x))) rest w) : Jw G X post pc lv (.ref x :: rest) w := by
  intro H locs ls hP hD hS hO hl
  exact lv_astore F.1 F.2.1 hd hl.has (by rw [F.2.2.1]; exact hn) rfl (fun ls' h' => k H locs ls' hP hD hS hO (lh_st1 ho h'))
theorem jr_lstore_n (F : Fx G X own cc nL d ret) {i : Fin 4} {x : Int64} (hd : decode cc pc = .ok (.lstore_n i, 1)) (hn : (i : Nat) + 1 < nL) (ho : okst lv (i : Nat) = true)
    (k : Jw G X post (pc + 1) (lst (lst lv ((i : Nat) + 1) none) (i : Nat) (some (.long x))) rest w) : Jw G X post pc lv (.long x :: rest) w := by
  intro H locs ls hP hD hS hO hl
  exact lv_lstore_n F.1 F.2.1 hd rfl hl.has (by rw [F.2.2.1]; exact hn) rfl (fun ls' h' => k H locs ls' hP hD hS hO (lh_st2 ho h'))
theorem jr_lstore (F : Fx G X own cc nL d ret) {i : Nat} {x : Int64} (hd : decode cc pc = .ok (.lstore i, 2)) (hn : i + 1 < nL) (ho : okst lv i = true)
    (k : Jw G X post (pc + 2) (lst (lst lv (i + 1) none) i (some (.long x))) rest w) : Jw G X post pc lv (.long x :: rest) w := by
  intro H locs ls hP hD hS hO hl
  exact lv_lstore F.1 F.2.1 hd hl.has (by rw [F.2.2.1]; exact hn) rfl (fun ls' h' => k H locs ls' hP hD hS hO (lh_st2 ho h'))
theorem jr_iadd (F : Fx G X own cc nL d ret) {a b : Int} (hd : decode cc pc = .ok (.iadd, 1))
    (k : Jw G X post (pc + 1) lv (iv (a + b) :: rest) w) : Jw G X post pc lv (iv b :: iv a :: rest) w := by
  intro H locs ls hP hD hS hO hl
  have h := k H locs ls hP hD hS hO hl
  rw [iv, Int32.ofInt_add] at h
  exact lv_iadd F.1 F.2.1 hd h
theorem jr_isub (F : Fx G X own cc nL d ret) {a b : Int} (hd : decode cc pc = .ok (.isub, 1))
    (k : Jw G X post (pc + 1) lv (iv (a - b) :: rest) w) : Jw G X post pc lv (iv b :: iv a :: rest) w := by
  intro H locs ls hP hD hS hO hl
  have h := k H locs ls hP hD hS hO hl
  rw [iv, Int32.ofInt_sub] at h
  exact lv_isub F.1 F.2.1 hd h
theorem jr_imul (F : Fx G X own cc nL d ret) {a b : Int} (hd : decode cc pc = .ok (.imul, 1))
    (k : Jw G X post (pc + 1) lv (iv (a * b) :: rest) w) : Jw G X post pc lv (iv b :: iv a :: rest) w := by
  intro H locs ls hP hD hS hO hl
  have h := k H locs ls hP hD hS hO hl
  rw [iv, Int32.ofInt_mul] at h
  exact lv_imul F.1 F.2.1 hd h
theorem jr_ineg (F : Fx G X own cc nL d ret) {a : Int} (hd : decode cc pc = .ok (.ineg, 1))
    (k : Jw G X post (pc + 1) lv (iv (-a) :: rest) w) : Jw G X post pc lv (iv a :: rest) w := by
  intro H locs ls hP hD hS hO hl
  have h := k H locs ls hP hD hS hO hl
  rw [iv, Int32.ofInt_neg] at h
  exact lv_ineg F.1 F.2.1 hd h
theorem jr_ladd (F : Fx G X own cc nL d ret) {a b : Int} (hd : decode cc pc = .ok (.ladd, 1))
    (k : Jw G X post (pc + 1) lv (lq (a + b) :: rest) w) : Jw G X post pc lv (lq b :: lq a :: rest) w := by
  intro H locs ls hP hD hS hO hl
  have h := k H locs ls hP hD hS hO hl
  rw [lq, Int64.ofInt_add] at h
  exact lv_ladd F.1 F.2.1 hd h
theorem jr_lmul (F : Fx G X own cc nL d ret) {a b : Int} (hd : decode cc pc = .ok (.lmul, 1))
    (k : Jw G X post (pc + 1) lv (lq (a * b) :: rest) w) : Jw G X post pc lv (lq b :: lq a :: rest) w := by
  intro H locs ls hP hD hS hO hl
  have h := k H locs ls hP hD hS hO hl
  rw [lq, Int64.ofInt_mul] at h
  exact lv_lmul F.1 F.2.1 hd h
theorem jr_iand (F : Fx G X own cc nL d ret) {x y : Int32} (hd : decode cc pc = .ok (.iand, 1))
    (k : Jw G X post (pc + 1) lv (.int (x &&& y) :: rest) w) : Jw G X post pc lv (.int y :: .int x :: rest) w := by
  intro H locs ls hP hD hS hO hl
  exact lv_iand F.1 F.2.1 hd (k H locs ls hP hD hS hO hl)
theorem jr_ior (F : Fx G X own cc nL d ret) {x y : Int32} (hd : decode cc pc = .ok (.ior, 1))
    (k : Jw G X post (pc + 1) lv (.int (x ||| y) :: rest) w) : Jw G X post pc lv (.int y :: .int x :: rest) w := by
  intro H locs ls hP hD hS hO hl
  exact lv_ior F.1 F.2.1 hd (k H locs ls hP hD hS hO hl)
theorem jr_ixor (F : Fx G X own cc nL d ret) {x y : Int32} (hd : decode cc pc = .ok (.ixor, 1))
    (k : Jw G X post (pc + 1) lv (.int (x ^^^ y) :: rest) w) : Jw G X post pc lv (.int y :: .int x :: rest) w := by
  intro H locs ls hP hD hS hO hl
  exact lv_ixor F.1 F.2.1 hd (k H locs ls hP hD hS hO hl)
theorem jr_land (F : Fx G X own cc nL d ret) {x y : Int64} (hd : decode cc pc = .ok (.land, 1))
    (k : Jw G X post (pc + 1) lv (.long (x &&& y) :: rest) w) : Jw G X post pc lv (.long y :: .long x :: rest) w := by
  intro H locs ls hP hD hS hO hl
  exact lv_land F.1 F.2.1 hd (k H locs ls hP hD hS hO hl)
theorem jr_lor (F : Fx G X own cc nL d ret) {x y : Int64} (hd : decode cc pc = .ok (.lor, 1))
    (k : Jw G X post (pc + 1) lv (.long (x ||| y) :: rest) w) : Jw G X post pc lv (.long y :: .long x :: rest) w := by
  intro H locs ls hP hD hS hO hl
  exact lv_lor F.1 F.2.1 hd (k H locs ls hP hD hS hO hl)
theorem jr_lxor (F : Fx G X own cc nL d ret) {x y : Int64} (hd : decode cc pc = .ok (.lxor, 1))
    (k : Jw G X post (pc + 1) lv (.long (x ^^^ y) :: rest) w) : Jw G X post pc lv (.long y :: .long x :: rest) w := by
  intro H locs ls hP hD hS hO hl
  exact lv_lxor F.1 F.2.1 hd (k H locs ls hP hD hS hO hl)
theorem jr_top (F : Fx G X own cc nL d ret) {x : Int32} {z : Int} (hz : x = Int32.ofInt z)
    (k : Jw G X post pc lv (iv z :: rest) w) : Jw G X post pc lv (.int x :: rest) w := by
  intro H locs ls hP hD hS hO hl
  subst hz
  exact k H locs ls hP hD hS hO hl
theorem jr_topl (F : Fx G X own cc nL d ret) {x : Int64} {z : Int} (hz : x = Int64.ofInt z)
    (k : Jw G X post pc lv (lq z :: rest) w) : Jw G X post pc lv (.long x :: rest) w := by
  intro H locs ls hP hD hS hO hl
  subst hz
  exact k H locs ls hP hD hS hO hl
theorem jr_icmp_eq (F : Fx G X own cc nL d ret) {a b : Int} {off : Int} {tgt : Nat} (hd : decode cc pc = .ok (.if_icmp .eq off, 3)) (ht : (pc : Int) + off = (tgt : Int))
    (kt : a = b → Jw G X post tgt lv rest w) (kf : ¬ a = b → Jw G X post (pc + 3) lv rest w) (ha : inR a) (hb : inR b) : Jw G X post pc lv (iv b :: iv a :: rest) w := by
  intro H locs ls hP hD hS hO hl
  exact lv_icmp_eq F.1 F.2.1 hd ht (fun h => kt (by exact (iv_eq ha hb).mp h) H locs ls hP hD hS hO hl) (fun h => kf (by exact fun q => h ((iv_eq ha hb).mpr q)) H locs ls hP hD hS hO hl)
theorem jr_if_eq (F : Fx G X own cc nL d ret) {a : Int} {off : Int} {tgt : Nat} (hd : decode cc pc = .ok (.ifCond .eq off, 3)) (ht : (pc : Int) + off = (tgt : Int))
    (kt : a = 0 → Jw G X post tgt lv rest w) (kf : ¬ a = 0 → Jw G X post (pc + 3) lv rest w) (ha : inR a) : Jw G X post pc lv (iv a :: rest) w := by
  intro H locs ls hP hD hS hO hl
  exact lv_if_eq F.1 F.2.1 hd ht (fun h => kt (by rw [iv_zero] at h; exact (iv_eq ha (show inR 0 by omega)).mp h) H locs ls hP hD hS hO hl) (fun h => kf (by rw [iv_zero] at h; exact fun q => h ((iv_eq ha (show inR 0 by omega)).mpr q)) H locs ls hP hD hS hO hl)
theorem jr_icmp_ne (F : Fx G X own cc nL d ret) {a b : Int} {off : Int} {tgt : Nat} (hd : decode cc pc = .ok (.if_icmp .ne off, 3)) (ht : (pc : Int) + off = (tgt : Int))
    (kt : ¬ a = b → Jw G X post tgt lv rest w) (kf : a = b → Jw G X post (pc + 3) lv rest w) (ha : inR a) (hb : inR b) : Jw G X post pc lv (iv b :: iv a :: rest) w := by
  intro H locs ls hP hD hS hO hl
  exact lv_icmp_ne F.1 F.2.1 hd ht (fun h => kt (by exact fun q => h ((iv_eq ha hb).mpr q)) H locs ls hP hD hS hO hl) (fun h => kf (by exact (iv_eq ha hb).mp h) H locs ls hP hD hS hO hl)
theorem jr_if_ne (F : Fx G X own cc nL d ret) {a : Int} {off : Int} {tgt : Nat} (hd : decode cc pc = .ok (.ifCond .ne off, 3)) (ht : (pc : Int) + off = (tgt : Int))
    (kt : ¬ a = 0 → Jw G X post tgt lv rest w) (kf : a = 0 → Jw G X post (pc + 3) lv rest w) (ha : inR a) : Jw G X post pc lv (iv a :: rest) w := by
  intro H locs ls hP hD hS hO hl
  exact lv_if_ne F.1 F.2.1 hd ht (fun h => kt (by rw [iv_zero] at h; exact fun q => h ((iv_eq ha (show inR 0 by omega)).mpr q)) H locs ls hP hD hS hO hl) (fun h => kf (by rw [iv_zero] at h; exact (iv_eq ha (show inR 0 by omega)).mp h) H locs ls hP hD hS hO hl)
theorem jr_icmp_lt (F : Fx G X own cc nL d ret) {a b : Int} {off : Int} {tgt : Nat} (hd : decode cc pc = .ok (.if_icmp .lt off, 3)) (ht : (pc : Int) + off = (tgt : Int))
    (kt : a < b → Jw G X post tgt lv rest w) (kf : b ≤ a → Jw G X post (pc + 3) lv rest w) (ha : inR a) (hb : inR b) : Jw G X post pc lv (iv b :: iv a :: rest) w := by
  intro H locs ls hP hD hS hO hl
  exact lv_icmp_lt F.1 F.2.1 hd ht (fun h => kt (by exact (iv_lt ha hb).mp h) H locs ls hP hD hS hO hl) (fun h => kf (by exact Int.not_lt.mp (fun q => h ((iv_lt ha hb).mpr q))) H locs ls hP hD hS hO hl)
theorem jr_if_lt (F : Fx G X own cc nL d ret) {a : Int} {off : Int} {tgt : Nat} (hd : decode cc pc = .ok (.ifCond .lt off, 3)) (ht : (pc : Int) + off = (tgt : Int))
    (kt : a < 0 → Jw G X post tgt lv rest w) (kf : 0 ≤ a → Jw G X post (pc + 3) lv rest w) (ha : inR a) : Jw G X post pc lv (iv a :: rest) w := by
  intro H locs ls hP hD hS hO hl
  exact lv_if_lt F.1 F.2.1 hd ht (fun h => kt (by rw [iv_zero] at h; exact (iv_lt ha (show inR 0 by omega)).mp h) H locs ls hP hD hS hO hl) (fun h => kf (by rw [iv_zero] at h; exact Int.not_lt.mp (fun q => h ((iv_lt ha (show inR 0 by omega)).mpr q))) H locs ls hP hD hS hO hl)
theorem jr_icmp_ge (F : Fx G X own cc nL d ret) {a b : Int} {off : Int} {tgt : Nat} (hd : decode cc pc = .ok (.if_icmp .ge off, 3)) (ht : (pc : Int) + off = (tgt : Int))
    (kt : b ≤ a → Jw G X post tgt lv rest w) (kf : a < b → Jw G X post (pc + 3) lv rest w) (ha : inR a) (hb : inR b) : Jw G X post pc lv (iv b :: iv a :: rest) w := by
  intro H locs ls hP hD hS hO hl
  exact lv_icmp_ge F.1 F.2.1 hd ht (fun h => kt (by exact (iv_le hb ha).mp h) H locs ls hP hD hS hO hl) (fun h => kf (by exact Int.not_le.mp (fun q => h ((iv_le hb ha).mpr q))) H locs ls hP hD hS hO hl)
theorem jr_if_ge (F : Fx G X own cc nL d ret) {a : Int} {off : Int} {tgt : Nat} (hd : decode cc pc = .ok (.ifCond .ge off, 3)) (ht : (pc : Int) + off = (tgt : Int))
    (kt : 0 ≤ a → Jw G X post tgt lv rest w) (kf : a < 0 → Jw G X post (pc + 3) lv rest w) (ha : inR a) : Jw G X post pc lv (iv a :: rest) w := by
  intro H locs ls hP hD hS hO hl
  exact lv_if_ge F.1 F.2.1 hd ht (fun h => kt (by rw [iv_zero] at h; exact (iv_le (show inR 0 by omega) ha).mp h) H locs ls hP hD hS hO hl) (fun h => kf (by rw [iv_zero] at h; exact Int.not_le.mp (fun q => h ((iv_le (show inR 0 by omega) ha).mpr q))) H locs ls hP hD hS hO hl)
theorem jr_icmp_gt (F : Fx G X own cc nL d ret) {a b : Int} {off : Int} {tgt : Nat} (hd : decode cc pc = .ok (.if_icmp .gt off, 3)) (ht : (pc : Int) + off = (tgt : Int))
    (kt : b < a → Jw G X post tgt lv rest w) (kf : a ≤ b → Jw G X post (pc + 3) lv rest w) (ha : inR a) (hb : inR b) : Jw G X post pc lv (iv b :: iv a :: rest) w := by
  intro H locs ls hP hD hS hO hl
  exact lv_icmp_gt F.1 F.2.1 hd ht (fun h => kt (by exact (iv_lt hb ha).mp h) H locs ls hP hD hS hO hl) (fun h => kf (by exact Int.not_lt.mp (fun q => h ((iv_lt hb ha).mpr q))) H locs ls hP hD hS hO hl)
theorem jr_if_gt (F : Fx G X own cc nL d ret) {a : Int} {off : Int} {tgt : Nat} (hd : decode cc pc = .ok (.ifCond .gt off, 3)) (ht : (pc : Int) + off = (tgt : Int))
    (kt : 0 < a → Jw G X post tgt lv rest w) (kf : a ≤ 0 → Jw G X post (pc + 3) lv rest w) (ha : inR a) : Jw G X post pc lv (iv a :: rest) w := by
  intro H locs ls hP hD hS hO hl
  exact lv_if_gt F.1 F.2.1 hd ht (fun h => kt (by rw [iv_zero] at h; exact (iv_lt (show inR 0 by omega) ha).mp h) H locs ls hP hD hS hO hl) (fun h => kf (by rw [iv_zero] at h; exact Int.not_lt.mp (fun q => h ((iv_lt (show inR 0 by omega) ha).mpr q))) H locs ls hP hD hS hO hl)
theorem jr_icmp_le (F : Fx G X own cc nL d ret) {a b : Int} {off : Int} {tgt : Nat} (hd : decode cc pc = .ok (.if_icmp .le off, 3)) (ht : (pc : Int) + off = (tgt : Int))
    (kt : a ≤ b → Jw G X post tgt lv rest w) (kf : b < a → Jw G X post (pc + 3) lv rest w) (ha : inR a) (hb : inR b) : Jw G X post pc lv (iv b :: iv a :: rest) w := by
  intro H locs ls hP hD hS hO hl
  exact lv_icmp_le F.1 F.2.1 hd ht (fun h => kt (by exact (iv_le ha hb).mp h) H locs ls hP hD hS hO hl) (fun h => kf (by exact Int.not_le.mp (fun q => h ((iv_le ha hb).mpr q))) H locs ls hP hD hS hO hl)
theorem jr_if_le (F : Fx G X own cc nL d ret) {a : Int} {off : Int} {tgt : Nat} (hd : decode cc pc = .ok (.ifCond .le off, 3)) (ht : (pc : Int) + off = (tgt : Int))
    (kt : a ≤ 0 → Jw G X post tgt lv rest w) (kf : 0 < a → Jw G X post (pc + 3) lv rest w) (ha : inR a) : Jw G X post pc lv (iv a :: rest) w := by
  intro H locs ls hP hD hS hO hl
  exact lv_if_le F.1 F.2.1 hd ht (fun h => kt (by rw [iv_zero] at h; exact (iv_le ha (show inR 0 by omega)).mp h) H locs ls hP hD hS hO hl) (fun h => kf (by rw [iv_zero] at h; exact Int.not_le.mp (fun q => h ((iv_le ha (show inR 0 by omega)).mpr q))) H locs ls hP hD hS hO hl)
/-- a truth as a number -/
noncomputable def bi (P : Prop) : Int := @ite _ P (Classical.propDecidable P) 1 0
theorem bi_t {P : Prop} (h : P) : bi P = 1 := by unfold bi; rw [if_pos h]
theorem bi_f {P : Prop} (h : ¬ P) : bi P = 0 := by unfold bi; rw [if_neg h]
theorem bi_c {P Q : Prop} (h : P ↔ Q) : bi P = bi Q := by rw [propext h]
theorem bi_01 (P : Prop) : 0 ≤ bi P ∧ bi P ≤ 1 := (Classical.em P).elim (fun h => by rw [bi_t h]; omega) (fun h => by rw [bi_f h]; omega)
theorem bi_eq1 {P : Prop} : bi P = 1 ↔ P := ⟨fun h => Classical.byContradiction fun q => by rw [bi_f q] at h; omega, bi_t⟩
theorem bi_eq0 {P : Prop} : bi P = 0 ↔ ¬ P := ⟨fun h q => by rw [bi_t q] at h; omega, bi_f⟩
theorem jr_ifeq_b (F : Fx G X own cc nL d ret) {B : Prop} {off : Int} {tgt : Nat} (hd : decode cc pc = .ok (.ifCond .eq off, 3)) (ht : (pc : Int) + off = (tgt : Int))
    (kt : ¬ B → Jw G X post tgt lv rest w) (kf : B → Jw G X post (pc + 3) lv rest w) : Jw G X post pc lv (iv (bi B) :: rest) w :=
  jr_if_eq F hd ht (fun h => kt (bi_eq0.mp h)) (fun h => kf (Classical.byContradiction fun q => h (bi_f q))) (by have := bi_01 B; omega)
theorem jr_ifne_b (F : Fx G X own cc nL d ret) {B : Prop} {off : Int} {tgt : Nat} (hd : decode cc pc = .ok (.ifCond .ne off, 3)) (ht : (pc : Int) + off = (tgt : Int))
    (kt : B → Jw G X post tgt lv rest w) (kf : ¬ B → Jw G X post (pc + 3) lv rest w) : Jw G X post pc lv (iv (bi B) :: rest) w :=
  jr_if_ne F hd ht (fun h => kt (Classical.byContradiction fun q => h (bi_f q))) (fun h => kf (bi_eq0.mp h)) (by have := bi_01 B; omega)
theorem jr_goto (F : Fx G X own cc nL d ret) {off : Int} {tgt : Nat} (hd : decode cc pc = .ok (.goto off, 3)) (ht : (pc : Int) + off = (tgt : Int))
    (k : Jw G X post tgt lv rest w) : Jw G X post pc lv rest w := by
  intro H locs ls hP hD hS hO hl
  exact lv_goto F.1 F.2.1 hd ht (k H locs ls hP hD hS hO hl)
theorem jr_tsOut (F : Fx G X own cc nL d ret) {a dflt lo hi : Int} {offs : Array Int} {len tgt : Nat} (hd : decode cc pc = .ok (.tableswitch dflt lo hi offs, len)) (h : a < lo ∨ hi < a) (ht : (pc : Int) + dflt = (tgt : Int)) (ha : inR a)
    (k : Jw G X post tgt lv rest w) : Jw G X post pc lv (iv a :: rest) w := by
  intro H locs ls hP hD hS hO hl
  exact lv_tableOut F.1 F.2.1 hd (by rw [iv_toInt ha]; exact h) ht (k H locs ls hP hD hS hO hl)
theorem jr_tsIn (F : Fx G X own cc nL d ret) {a dflt lo hi off : Int} {offs : Array Int} {len tgt : Nat} (v : Int) (hd : decode cc pc = .ok (.tableswitch dflt lo hi offs, len)) (h : a = v) (h1 : lo ≤ v) (h2 : v ≤ hi) (ho : offs[(v - lo).toNat]? = some off) (ht : (pc : Int) + off = (tgt : Int)) (ha : inR v)
    (k : Jw G X post tgt lv rest w) : Jw G X post pc lv (iv a :: rest) w := by
  intro H locs ls hP hD hS hO hl
  subst h
  exact lv_tableIn F.1 F.2.1 hd (by rw [iv_toInt ha]; omega) (by rw [iv_toInt ha]; omega) (by rw [iv_toInt ha]; exact ho) ht (k H locs ls hP hD hS hO hl)
theorem jr_look (F : Fx G X own cc nL d ret) {a dflt off : Int} {ps : Array (Int × Int)} {len tgt : Nat} (hd : decode cc pc = .ok (.lookupswitch dflt ps, len)) (hp : (ps.toList.zip (ps.toList.drop 1)).all (fun (a, next) => a.1 < next.1) = true) (ho : Op.lookupswitch.offset ps.toList dflt a = off) (ht : (pc : Int) + off = (tgt : Int)) (ha : inR a)
    (k : Jw G X post tgt lv rest w) : Jw G X post pc lv (iv a :: rest) w := by
  intro H locs ls hP hD hS hO hl
  exact lv_lookup F.1 F.2.1 hd hp (by rw [iv_toInt ha]; exact ho) ht (k H locs ls hP hD hS hO hl)
theorem asc_at {ls : Array Slot} {nL : Nat} {l : List (Option Value)} {i : Nat} {v : Value} (h : lg l i = some v) : ∃ k : Nat, (asc 0 l)[k]? = some (i, v) := List.getElem?_of_mem ((asc_mem l 0 i v).mpr ⟨i, by omega, h⟩)
theorem jr_iinc (F : Fx G X own cc nL d ret) {i : Nat} {n a : Int} (hd : decode cc pc = .ok (.iinc i n, 3)) (hi : lg lv i = some (iv a)) (hn : i < nL) (ho : okst lv i = true)
    (k : Jw G X post (pc + 3) (lst lv i (some (iv (a + n)))) rest w) : Jw G X post pc lv rest w := by
  intro H locs ls hP hD hS hO hl
  obtain ⟨q, hq⟩ := asc_at (ls := ls) (nL := nL) hi
  exact lv_iinc (v := Int32.ofInt (a + n)) F.1 F.2.1 hd hl.has hq (by rw [Int32.ofInt_add]) (by rw [F.2.2.1]; exact hn) rfl (fun ls' h' => k H locs ls' hP hD hS hO (lh_st1 ho h'))
theorem jr_i2l (F : Fx G X own cc nL d ret) {a : Int} (hd : decode cc pc = .ok (.i2l, 1)) (ha : inR a)
    (k : Jw G X post (pc + 1) lv (lq a :: rest) w) : Jw G X post pc lv (iv a :: rest) w := by
  intro H locs ls hP hD hS hO hl
  exact lv_i2l F.1 F.2.1 hd (Int32.toInt64_ofInt (by rw [iv_min]; exact ha.1) (by rw [iv_max]; exact ha.2)) (k H locs ls hP hD hS hO hl)
theorem jr_l2i (F : Fx G X own cc nL d ret) {a : Int} (hd : decode cc pc = .ok (.l2i, 1))
    (k : Jw G X post (pc + 1) lv (iv a :: rest) w) : Jw G X post pc lv (lq a :: rest) w := by
  intro H locs ls hP hD hS hO hl
  exact lv_l2i F.1 F.2.1 hd Int64.toInt32_ofInt (k H locs ls hP hD hS hO hl)
theorem jr_i2b (F : Fx G X own cc nL d ret) {a : Int} (hd : decode cc pc = .ok (.i2b, 1)) (ha : -128 ≤ a ∧ a ≤ 127)
    (k : Jw G X post (pc + 1) lv (iv a :: rest) w) : Jw G X post pc lv (iv a :: rest) w := by
  intro H locs ls hP hD hS hO hl
  exact lv_i2b F.1 F.2.1 hd (by rw [Int32.toInt8_ofInt]; exact Int32.toInt_inj.mp (by rw [Int8.toInt_toInt32, Int8.toInt_ofInt_of_le (by omega) (by omega), iv_toInt (by omega)])) (k H locs ls hP hD hS hO hl)
theorem jr_ishl (F : Fx G X own cc nL d ret) {x y : Int32} (hd : decode cc pc = .ok (.ishl, 1))
    (k : Jw G X post (pc + 1) lv (.int (x <<< (y &&& 31)) :: rest) w) : Jw G X post pc lv (.int y :: .int x :: rest) w := by
  intro H locs ls hP hD hS hO hl
  exact lv_ishl F.1 F.2.1 hd (k H locs ls hP hD hS hO hl)
theorem jr_ishr (F : Fx G X own cc nL d ret) {x y : Int32} (hd : decode cc pc = .ok (.ishr, 1))
    (k : Jw G X post (pc + 1) lv (.int (x >>> (y &&& 31)) :: rest) w) : Jw G X post pc lv (.int y :: .int x :: rest) w := by
  intro H locs ls hP hD hS hO hl
  exact lv_ishr F.1 F.2.1 hd (k H locs ls hP hD hS hO hl)
theorem jr_iushr (F : Fx G X own cc nL d ret) {x y : Int32} (hd : decode cc pc = .ok (.iushr, 1))
    (k : Jw G X post (pc + 1) lv (.int ((x.toUInt32 >>> (y.toUInt32 &&& Int32.toUInt32 31)).toInt32) :: rest) w) : Jw G X post pc lv (.int y :: .int x :: rest) w := by
  intro H locs ls hP hD hS hO hl
  exact lv_iushr F.1 F.2.1 hd rfl (k H locs ls hP hD hS hO hl)
theorem jr_lshl (F : Fx G X own cc nL d ret) {x : Int64} {y : Int32} (hd : decode cc pc = .ok (.lshl, 1))
    (k : Jw G X post (pc + 1) lv (.long (x <<< (y.toInt64 &&& 63)) :: rest) w) : Jw G X post pc lv (.int y :: .long x :: rest) w := by
  intro H locs ls hP hD hS hO hl
  exact lv_lshl F.1 F.2.1 hd rfl (k H locs ls hP hD hS hO hl)
theorem jr_lshr (F : Fx G X own cc nL d ret) {x : Int64} {y : Int32} (hd : decode cc pc = .ok (.lshr, 1))
    (k : Jw G X post (pc + 1) lv (.long (x >>> (y.toInt64 &&& 63)) :: rest) w) : Jw G X post pc lv (.int y :: .long x :: rest) w := by
  intro H locs ls hP hD hS hO hl
  exact lv_lshr F.1 F.2.1 hd rfl (k H locs ls hP hD hS hO hl)
theorem jr_lushr (F : Fx G X own cc nL d ret) {x : Int64} {y : Int32} (hd : decode cc pc = .ok (.lushr, 1))
    (k : Jw G X post (pc + 1) lv (.long ((x.toUInt64 >>> (y.toInt64.toUInt64 &&& Int64.toUInt64 63)).toInt64) :: rest) w) : Jw G X post pc lv (.int y :: .long x :: rest) w := by
  intro H locs ls hP hD hS hO hl
  exact lv_lushr F.1 F.2.1 hd rfl (k H locs ls hP hD hS hO hl)
theorem jr_irem (F : Fx G X own cc nL d ret) {a b : Int} (hd : decode cc pc = .ok (.irem, 1)) (ha : inR a) (h0 : 0 ≤ a) (hb : 0 < b) (hb2 : inR b)
    (k : Jw G X post (pc + 1) lv (iv (a % b) :: rest) w) : Jw G X post pc lv (iv b :: iv a :: rest) w := by
  intro H locs ls hP hD hS hO hl
  have h := k H locs ls hP hD hS hO hl
  have e : Int32.ofInt a - Int32.ofInt a / Int32.ofInt b * Int32.ofInt b = Int32.ofInt (a % b) := by rw [← iv_tdiv ha hb2, Int.tdiv_eq_ediv_of_nonneg h0, ← Int32.ofInt_mul, ← Int32.ofInt_sub, Int.emod_def, Int.mul_comm b]
  rw [iv, ← e] at h
  exact lv_irem F.1 F.2.1 hd (by rw [iv_zero, iv_eq hb2 (by omega)]; omega) h
theorem jr_idiv (F : Fx G X own cc nL d ret) {a b : Int} (hd : decode cc pc = .ok (.idiv, 1)) (ha : inR a) (h0 : 0 ≤ a) (hb : 0 < b) (hb2 : inR b)
    (k : Jw G X post (pc + 1) lv (iv (a / b) :: rest) w) : Jw G X post pc lv (iv b :: iv a :: rest) w := by
  intro H locs ls hP hD hS hO hl
  have h := k H locs ls hP hD hS hO hl
  have e : Int32.ofInt a / Int32.ofInt b = Int32.ofInt (a / b) := by rw [← iv_tdiv ha hb2, Int.tdiv_eq_ediv_of_nonneg h0]
  rw [iv, ← e] at h
  exact lv_idiv F.1 F.2.1 hd (by rw [iv_zero, iv_eq hb2 (by omega)]; omega) h
theorem jr_dup (F : Fx G X own cc nL d ret) {v : Value} (hd : decode cc pc = .ok (.dup, 1)) (hc : v.category = 1)
    (k : Jw G X post (pc + 1) lv (v :: v :: rest) w) : Jw G X post pc lv (v :: rest) w := by
  intro H locs ls hP hD hS hO hl
  exact lv_dup F.1 F.2.1 hd hc (k H locs ls hP hD hS hO hl)
theorem jr_pop (F : Fx G X own cc nL d ret) {v : Value} (hd : decode cc pc = .ok (.pop, 1)) (hc : v.category = 1)
    (k : Jw G X post (pc + 1) lv rest w) : Jw G X post pc lv (v :: rest) w := by
  intro H locs ls hP hD hS hO hl
  exact lv_pop F.1 F.2.1 hd hc (k H locs ls hP hD hS hO hl)
theorem jr_dup_x1 (F : Fx G X own cc nL d ret) {u v : Value} (hd : decode cc pc = .ok (.dup_x1, 1)) (hu : u.category = 1) (hv : v.category = 1)
    (k : Jw G X post (pc + 1) lv (u :: v :: u :: rest) w) : Jw G X post pc lv (u :: v :: rest) w := by
  intro H locs ls hP hD hS hO hl
  exact lv_dup_x1 F.1 F.2.1 hd hu hv (k H locs ls hP hD hS hO hl)
theorem jr_dup2 (F : Fx G X own cc nL d ret) {u v : Value} (hd : decode cc pc = .ok (.dup2, 1)) (hu : u.category = 1) (hv : v.category = 1)
    (k : Jw G X post (pc + 1) lv (u :: v :: u :: v :: rest) w) : Jw G X post pc lv (u :: v :: rest) w := by
  intro H locs ls hP hD hS hO hl
  exact lv_dup2_11 F.1 F.2.1 hd hu hv (k H locs ls hP hD hS hO hl)
theorem jr_ifnull (F : Fx G X own cc nL d ret) {x : Nat} {off : Int} (hd : decode cc pc = .ok (.ifnull off, 3))
    (k : Jw G X post (pc + 3) lv rest w) : Jw G X post pc lv (.ref x :: rest) w := by
  intro H locs ls hP hD hS hO hl
  exact lv_ifnull F.1 F.2.1 hd (k H locs ls hP hD hS hO hl)
end JR
end
section
/-! what the tables say of a field that an instruction names: own: the class of the method, i: the entry of its pool, ci: the class of the object, j: the field's place -/
def Fg (own : String) (i ci j : Nat) : Prop := ∃ (C : String) (T : u_T) (N : Nat), vwCl[ci]? = some (C, T, N) ∧ j < N ∧ (∀ w ∈ u_ws C T N, w ∈ tb0) ∧ Cond.fieldLink own i (T j).1 (T j).2.1 (T j).2.2.1 ∈ tb0
def Fp (own : String) (i ci j : Nat) (ty : FieldType) : Prop := ∃ (C : String) (T : u_T) (N : Nat) (ty0 : Nat → FieldType), vwCl[ci]? = some (C, T, N) ∧ j < N ∧ (∀ w ∈ u_ws C T N, w ∈ tb0) ∧ Cond.fieldLink own i (T j).1 (T j).2.1 (T j).2.2.1 ∈ tb0 ∧
  (∀ k, k < N → parseFieldDescriptor (T k).2.2.1 = some (ty0 k)) ∧ (∀ a, a < N → ∀ b, b < N → a ≠ b → (T a).2.1 ≠ (T b).2.1) ∧ (T j).2.2.2 = false ∧ parseFieldDescriptor (T j).2.2.1 = some ty
theorem nar_bool {a : Int} (h : 0 ≤ a ∧ a ≤ 1) : narrow .boolean (.int (Int32.ofInt a)) = .int (Int32.ofInt a) ∧ fits .boolean (.int (Int32.ofInt a)) = true := by
  rcases (show a = 0 ∨ a = 1 by omega) with rfl | rfl <;> exact ⟨by decide, by decide⟩
theorem iv_nat (n : Nat) : Int32.ofNat n = Int32.ofInt (n : Int) := by rw [Int32.ofInt_eq_ofNat]
theorem upd_arr {w : Wd} {k : Nat} {i v : Int} (h0 : 0 ≤ i) : upd (fun j => Int32.ofInt (w k (j : Int))) i.toNat (Int32.ofInt v) = fun j : Nat => Int32.ofInt (up w k i v k (j : Int)) := by
  funext j
  unfold upd up
  by_cases h : j = i.toNat
  · have : (j : Int) = i := by omega
    rw [if_pos h, if_pos ⟨rfl, this⟩]
  · have : ¬ (j : Int) = i := by omega
    rw [if_neg h, if_neg (fun q => this q.2)]
theorem fvs_set {G : Gc} {w : Wd} {k j c : Nat} {v : Int} {x : Value} : ∀ {l : List Nat} {b : Nat}, l[j]? = some c → fv G (up w k ((b + j : Nat) : Int) v) k (b + j) c = x → (fvs G w k b l).set j x = fvs G (up w k ((b + j : Nat) : Int) v) k b l
  | [], b, h, _ => by simp at h
  | u :: t, b, h, hx => by
    have tl : ∀ (l : List Nat) (m : Nat), b + j < m → fvs G (up w k ((b + j : Nat) : Int) v) k m l = fvs G w k m l := by
      intro l
      induction l with
      | nil => intro m _; rfl
      | cons q l ih =>
        intro m hm
        simp only [fvs, ih (m + 1) (by omega)]
        congr 1
        unfold fv
        simp only [up_ne (w := w) (k := k) (k' := k) (i := ((b + j : Nat) : Int)) (v := v) (j := (m : Int)) (by omega)]
    cases j with
    | zero =>
      simp only [List.getElem?_cons_zero, Option.some.injEq] at h
      subst h
      simp only [fvs, List.set_cons_zero]
      rw [tl t (b + 1) (by omega)]
      rw [show b + 0 = b from rfl] at hx
      rw [show b + 0 = b from rfl, hx]
    | succ j =>
      simp only [List.getElem?_cons_succ] at h
      simp only [fvs, List.set_cons_succ]
      have h1 : fv G (up w k ((b + (j + 1) : Nat) : Int) v) k b u = fv G w k b u := by
        unfold fv
        simp only [up_ne (w := w) (k := k) (k' := k) (i := ((b + (j + 1) : Nat) : Int)) (v := v) (j := (b : Int)) (by omega)]
      rw [h1]
      have e : b + (j + 1) = (b + 1) + j := by omega
      rw [e] at hx ⊢
      rw [fvs_set (b := b + 1) h hx]
section JH
variable {G : Gc} {X : Xc} {own : String} {cc : ByteArray} {nL d : Nat} {ret : Option FieldType} {post : Option Value → Wd → Prop} {pc : Nat} {lv : List (Option Value)} {rest : List Value} {w : Wd}
theorem jr_getV (F : Fx G X own cc nL d ret) {i k ci j c : Nat} {fs : List Nat} (hd : decode cc pc = .ok (.getfield i, 3)) (L : Fg own i ci j) (hk : k < gn G) (hs : gS G k = .inr (ci, fs)) (hc : fs[j]? = some c)
    (kk : Jw G X post (pc + 3) lv (fv G w k j c :: rest) w) : Jw G X post pc lv (.ref (ga G k) :: rest) w := by
  intro H locs ls hP hD hS hO hl
  obtain ⟨C, T, N, l1, l2, l3, l4⟩ := L
  exact va_get F.1 F.2.1 F.2.2.2.2.1 l3 F.2.2.2.1 F.2.2.2.2.2.1 hP k (by rw [cels_get hk, cel_O hs]) l1 j l2 (F.2.2.2.2.1 _ l4) (fun _ h => h) (by rw [fvs_get, hc]; simp) hd (kk H locs ls hP hD hS hO hl)
theorem jr_getI (F : Fx G X own cc nL d ret) {i k ci j : Nat} {fs : List Nat} (hd : decode cc pc = .ok (.getfield i, 3)) (L : Fg own i ci j) (hk : k < gn G) (hs : gS G k = .inr (ci, fs)) (hc : fs[j]? = some 0)
    (kk : inR (w k (j : Nat)) → Jw G X post (pc + 3) lv (iv (w k (j : Nat)) :: rest) w) : Jw G X post pc lv (.ref (ga G k) :: rest) w := by
  intro H locs ls hP hD hS hO hl
  exact jr_getV F hd L hk hs hc (kk (hO.2 k ci fs hs j 0 hc)) H locs ls hP hD hS hO hl
theorem jr_getZ (F : Fx G X own cc nL d ret) {i k ci j : Nat} {fs : List Nat} (hd : decode cc pc = .ok (.getfield i, 3)) (L : Fg own i ci j) (hk : k < gn G) (hs : gS G k = .inr (ci, fs)) (hc : fs[j]? = some 2)
    (kk : (0 ≤ w k (j : Nat) ∧ w k (j : Nat) ≤ 1) → Jw G X post (pc + 3) lv (iv (w k (j : Nat)) :: rest) w) : Jw G X post pc lv (.ref (ga G k) :: rest) w := by
  intro H locs ls hP hD hS hO hl
  exact jr_getV F hd L hk hs hc (kk (hO.2 k ci fs hs j 2 hc)) H locs ls hP hD hS hO hl
theorem jr_getL (F : Fx G X own cc nL d ret) {i k ci j : Nat} {fs : List Nat} (hd : decode cc pc = .ok (.getfield i, 3)) (L : Fg own i ci j) (hk : k < gn G) (hs : gS G k = .inr (ci, fs)) (hc : fs[j]? = some 1)
    (kk : inL (w k (j : Nat)) → Jw G X post (pc + 3) lv (lq (w k (j : Nat)) :: rest) w) : Jw G X post pc lv (.ref (ga G k) :: rest) w := by
  intro H locs ls hP hD hS hO hl
  exact jr_getV F hd L hk hs hc (kk (hO.2 k ci fs hs j 1 hc)) H locs ls hP hD hS hO hl
theorem jr_getR (F : Fx G X own cc nL d ret) {i k ci j t : Nat} {fs : List Nat} (hd : decode cc pc = .ok (.getfield i, 3)) (L : Fg own i ci j) (hk : k < gn G) (hs : gS G k = .inr (ci, fs)) (hc : fs[j]? = some (t + 3))
    (kk : Jw G X post (pc + 3) lv (.ref (ga G t) :: rest) w) : Jw G X post pc lv (.ref (ga G k) :: rest) w := jr_getV F hd L hk hs hc kk
theorem jr_putV (F : Fx G X own cc nL d ret) {i k ci j c : Nat} {fs : List Nat} {v : Int} {x : Value} {ty : FieldType} (hd : decode cc pc = .ok (.putfield i, 3)) (L : Fp own i ci j ty) (hk : k < gn G) (hs : gS G k = .inr (ci, fs)) (hc : fs[j]? = some c)
    (hx : fv G (up w k (j : Nat) v) k j c = x) (hn : narrow ty x = x) (hf : fits ty x = true) (hv : rF c v) (kk : Jw G X post (pc + 3) lv rest (up w k (j : Nat) v)) : Jw G X post pc lv (x :: .ref (ga G k) :: rest) w := by
  intro H locs ls hP hD hS hO hl
  obtain ⟨C, T, N, ty0, l1, l2, l3, l4, l5, l6, l7, l8⟩ := L
  have e : (cels G w).set k (ga G k, .inr (ci, (fvs G w k 0 fs).set j x)) = cels G (up w k (j : Nat) v) := cels_upd (fun k' h => up_cell h) (by
    rw [cel_O hs]
    have := fvs_set (G := G) (w := w) (k := k) (v := v) (b := 0) hc (x := x) (by rw [Nat.zero_add]; exact hx)
    rw [Nat.zero_add] at this
    rw [this])
  refine va_put F.1 F.2.1 F.2.2.2.2.1 l3 ty0 l5 l6 F.2.2.2.1 F.2.2.2.2.2.1 hP hD hS k (by rw [cels_get hk, cel_O hs]) l1 j l2 (F.2.2.2.2.1 _ l4) (fun _ h => h) l7 l8 hn hf (by rw [fvs_len]; exact (List.getElem?_eq_some_iff.mp hc).1) hd (fun H1 locs1 hP1 hD1 hS1 => ?_)
  rw [e] at hP1 hD1
  exact kk H1 locs1 ls hP1 hD1 hS1 (hO.upF hs hc hv) hl
theorem jr_putI (F : Fx G X own cc nL d ret) {i k ci j : Nat} {fs : List Nat} {v : Int} (hd : decode cc pc = .ok (.putfield i, 3)) (L : Fp own i ci j .int) (hk : k < gn G) (hs : gS G k = .inr (ci, fs)) (hc : fs[j]? = some 0)
    (hv : inR v) (kk : Jw G X post (pc + 3) lv rest (up w k (j : Nat) v)) : Jw G X post pc lv (iv v :: .ref (ga G k) :: rest) w :=
  jr_putV F hd L hk hs hc (by show iv (up w k (j : Nat) v k (j : Nat)) = iv v; rw [up_self]) rfl rfl hv kk
theorem jr_putZ (F : Fx G X own cc nL d ret) {i k ci j : Nat} {fs : List Nat} {v : Int} (hd : decode cc pc = .ok (.putfield i, 3)) (L : Fp own i ci j .boolean) (hk : k < gn G) (hs : gS G k = .inr (ci, fs)) (hc : fs[j]? = some 2)
    (hv : 0 ≤ v ∧ v ≤ 1) (kk : Jw G X post (pc + 3) lv rest (up w k (j : Nat) v)) : Jw G X post pc lv (iv v :: .ref (ga G k) :: rest) w :=
  jr_putV F hd L hk hs hc (by show iv (up w k (j : Nat) v k (j : Nat)) = iv v; rw [up_self]) (nar_bool hv).1 (nar_bool hv).2 hv kk
theorem jr_putL (F : Fx G X own cc nL d ret) {i k ci j : Nat} {fs : List Nat} {v : Int} (hd : decode cc pc = .ok (.putfield i, 3)) (L : Fp own i ci j .long) (hk : k < gn G) (hs : gS G k = .inr (ci, fs)) (hc : fs[j]? = some 1)
    (hv : inL v) (kk : Jw G X post (pc + 3) lv rest (up w k (j : Nat) v)) : Jw G X post pc lv (lq v :: .ref (ga G k) :: rest) w :=
  jr_putV F hd L hk hs hc (by show lq (up w k (j : Nat) v k (j : Nat)) = lq v; rw [up_self]) rfl rfl hv kk
theorem jr_iald (F : Fx G X own cc nL d ret) {k n : Nat} {a : Int} (hd : decode cc pc = .ok (.iaload, 1)) (hk : k < gn G) (hs : gS G k = .inl (0, n)) (hn : n < 2147483648)
    (kk : inR (w k a) → Jw G X post (pc + 1) lv (iv (w k a) :: rest) w) (h0 : 0 ≤ a) (h1 : a < n) : Jw G X post pc lv (iv a :: .ref (ga G k) :: rest) w := by
  intro H locs ls hP hD hS hO hl
  have ha : inR a := by omega
  have h := kk (hO.1 k 0 n hs a h0 h1) H locs ls hP hD hS hO hl
  refine va_iald F.1 F.2.1 F.2.2.2.2.2.1 hP k 0 (by rw [cels_get hk, cel_A hs]) rfl (iv_in ha h0 h1) hd ?_
  rw [iv_clamp ha, Int.toNat_of_nonneg h0]
  exact h
theorem jr_bald (F : Fx G X own cc nL d ret) {k n : Nat} {a : Int} (hd : decode cc pc = .ok (.baload, 1)) (hk : k < gn G) (hs : gS G k = .inl (1, n)) (hn : n < 2147483648)
    (kk : (-128 ≤ w k a ∧ w k a ≤ 127) → Jw G X post (pc + 1) lv (iv (w k a) :: rest) w) (h0 : 0 ≤ a) (h1 : a < n) : Jw G X post pc lv (iv a :: .ref (ga G k) :: rest) w := by
  intro H locs ls hP hD hS hO hl
  have ha : inR a := by omega
  have h := kk (hO.1 k 1 n hs a h0 h1) H locs ls hP hD hS hO hl
  refine va_bald F.1 F.2.1 F.2.2.2.2.2.1 hP k 1 (by rw [cels_get hk, cel_A hs]) rfl (iv_in ha h0 h1) hd ?_
  rw [iv_clamp ha, Int.toNat_of_nonneg h0]
  exact h
theorem jr_zald (F : Fx G X own cc nL d ret) {k n : Nat} {a : Int} (hd : decode cc pc = .ok (.baload, 1)) (hk : k < gn G) (hs : gS G k = .inl (2, n)) (hn : n < 2147483648)
    (kk : (0 ≤ w k a ∧ w k a ≤ 1) → Jw G X post (pc + 1) lv (iv (w k a) :: rest) w) (h0 : 0 ≤ a) (h1 : a < n) : Jw G X post pc lv (iv a :: .ref (ga G k) :: rest) w := by
  intro H locs ls hP hD hS hO hl
  have ha : inR a := by omega
  have h := kk (hO.1 k 2 n hs a h0 h1) H locs ls hP hD hS hO hl
  refine va_zald F.1 F.2.1 F.2.2.2.2.2.1 hP k 2 (by rw [cels_get hk, cel_A hs]) rfl (iv_in ha h0 h1) hd ?_
  rw [iv_clamp ha, Int.toNat_of_nonneg h0]
  exact h
theorem cels_upA {k t n : Nat} {a v : Int} (hs : gS G k = .inl (t, n)) (h0 : 0 ≤ a) : (cels G w).set k (ga G k, .inl (gt G t, n, .inl (upd (fun j => Int32.ofInt (w k (j : Int))) a.toNat (Int32.ofInt v)))) = cels G (up w k a v) :=
  cels_upd (fun k' h => up_cell h) (by rw [cel_A hs, upd_arr h0])
theorem jr_iast (F : Fx G X own cc nL d ret) {k n : Nat} {a v : Int} (hd : decode cc pc = .ok (.iastore, 1)) (hk : k < gn G) (hs : gS G k = .inl (0, n)) (hn : n < 2147483648)
    (kk : Jw G X post (pc + 1) lv rest (up w k a v)) (h0 : 0 ≤ a) (h1 : a < n) (hv : inR v) : Jw G X post pc lv (iv v :: iv a :: .ref (ga G k) :: rest) w := by
  intro H locs ls hP hD hS hO hl
  have ha : inR a := by omega
  refine va_iast F.1 F.2.1 F.2.2.2.2.2.1 hP hD hS k 0 (by rw [cels_get hk, cel_A hs]) rfl (iv_in ha h0 h1) hd (fun H1 locs1 hP1 hD1 hS1 => ?_)
  rw [iv_clamp ha, cels_upA hs h0] at hP1 hD1
  exact kk H1 locs1 ls hP1 hD1 hS1 (hO.upA hs hv) hl
theorem nar_byte {v : Int} (h : -128 ≤ v ∧ v ≤ 127) : vp_nar .byte (Int32.ofInt v) = Int32.ofInt v := by
  rw [vp_nar_byte, Int32.toInt8_ofInt]
  exact Int32.toInt_inj.mp (by rw [Int8.toInt_toInt32, Int8.toInt_ofInt_of_le (by omega) (by omega), iv_toInt (by omega)])
theorem nar_bool2 {v : Int} (h : 0 ≤ v ∧ v ≤ 1) : vp_nar .boolean (Int32.ofInt v) = Int32.ofInt v := by
  rcases (show v = 0 ∨ v = 1 by omega) with rfl | rfl <;> decide
theorem jr_bast (F : Fx G X own cc nL d ret) {k n : Nat} {a v : Int} (hd : decode cc pc = .ok (.bastore, 1)) (hk : k < gn G) (hs : gS G k = .inl (1, n)) (hn : n < 2147483648)
    (kk : Jw G X post (pc + 1) lv rest (up w k a v)) (h0 : 0 ≤ a) (h1 : a < n) (hv : -128 ≤ v ∧ v ≤ 127) : Jw G X post pc lv (iv v :: iv a :: .ref (ga G k) :: rest) w := by
  intro H locs ls hP hD hS hO hl
  have ha : inR a := by omega
  refine va_bast F.1 F.2.1 F.2.2.2.2.2.1 hP hD hS k 1 (by rw [cels_get hk, cel_A hs]) rfl (iv_in ha h0 h1) hd (fun H1 locs1 hP1 hD1 hS1 => ?_)
  rw [nar_byte hv, iv_clamp ha, cels_upA hs h0] at hP1 hD1
  exact kk H1 locs1 ls hP1 hD1 hS1 (hO.upA hs hv) hl
theorem jr_zast (F : Fx G X own cc nL d ret) {k n : Nat} {a v : Int} (hd : decode cc pc = .ok (.bastore, 1)) (hk : k < gn G) (hs : gS G k = .inl (2, n)) (hn : n < 2147483648)
    (kk : Jw G X post (pc + 1) lv rest (up w k a v)) (h0 : 0 ≤ a) (h1 : a < n) (hv : 0 ≤ v ∧ v ≤ 1) : Jw G X post pc lv (iv v :: iv a :: .ref (ga G k) :: rest) w := by
  intro H locs ls hP hD hS hO hl
  have ha : inR a := by omega
  refine va_zast F.1 F.2.1 F.2.2.2.2.2.1 hP hD hS k 2 (by rw [cels_get hk, cel_A hs]) rfl (iv_in ha h0 h1) hd (fun H1 locs1 hP1 hD1 hS1 => ?_)
  rw [nar_bool2 hv, iv_clamp ha, cels_upA hs h0] at hP1 hD1
  exact kk H1 locs1 ls hP1 hD1 hS1 (hO.upA hs hv) hl
theorem jr_alen (F : Fx G X own cc nL d ret) {k n : Nat} (hd : decode cc pc = .ok (.arraylength, 1)) (hk : k < gn G) (hs : gS G k = .inl (0, n))
    (kk : Jw G X post (pc + 1) lv (iv (n : Int) :: rest) w) : Jw G X post pc lv (.ref (ga G k) :: rest) w := by
  intro H locs ls hP hD hS hO hl
  exact va_alen F.1 F.2.1 F.2.2.2.2.2.1 hP k 0 (by rw [cels_get hk, cel_A hs]) rfl (iv_nat n) hd (kk H locs ls hP hD hS hO hl)
/-! the ends -/
theorem jr_end (F : Fx G X own cc nL d ret) {v : Option Value} {H : Heap} {locs : List Loc} (hp : post v w) (hP : va_P (gD G) vwCl (cels G w) H) (hD : va_D (xA X) (cels G w)) (hS : va_S (xA X) (xs X).heap H locs) (hO : okW G w) (t : State) (ht : t.heap = H) (hW : (xs X).WarmedH t.vm) : Qg G post (xA X) (xa X) (xs X) (.returned v) t :=
  ⟨⟨v, w, rfl, hp, hO, by rw [ht]; exact hP, va_K.moved hW.alike F.2.2.2.2.2.1, hD⟩, hS.F ht⟩
theorem jr_iret (F : Fx G X own cc nL d (some .int)) {x : Int32} (hd : decode cc pc = .ok (.ireturn, 1)) (hp : post (some (.int x)) w) : Jw G X post pc lv [.int x] w := by
  intro H locs ls hP hD hS hO hl
  exact W.iret (hlocks := F.2.2.2.2.2.2.2.2.1) F.1 F.2.1 F.2.2.2.2.2.2.2.1 (fun t ht hW => jr_end F hp hP hD hS hO t ht hW) hS.2.2 hd
theorem jr_zret (F : Fx G X own cc nL d (some .boolean)) {a : Int} (hd : decode cc pc = .ok (.ireturn, 1)) (hp : post (some (iv a)) w) (ha : 0 ≤ a ∧ a ≤ 1) : Jw G X post pc lv [iv a] w := by
  intro H locs ls hP hD hS hO hl
  exact W.zret (hlocks := F.2.2.2.2.2.2.2.2.1) F.1 F.2.1 F.2.2.2.2.2.2.2.1 (nar_bool ha).1 (fun t ht hW => jr_end F hp hP hD hS hO t ht hW) hS.2.2 hd
theorem jr_lret (F : Fx G X own cc nL d (some .long)) {x : Int64} (hd : decode cc pc = .ok (.lreturn, 1)) (hp : post (some (.long x)) w) : Jw G X post pc lv [.long x] w := by
  intro H locs ls hP hD hS hO hl
  exact W.lret (hlocks := F.2.2.2.2.2.2.2.2.1) F.1 F.2.1 F.2.2.2.2.2.2.2.1 (fun t ht hW => jr_end F hp hP hD hS hO t ht hW) hS.2.2 hd
theorem jr_vret (F : Fx G X own cc nL d none) (hd : decode cc pc = .ok (.return_, 1)) (hp : post none w) : Jw G X post pc lv [] w := by
  intro H locs ls hP hD hS hO hl
  exact W.vret (hlocks := F.2.2.2.2.2.2.2.2.1) F.1 F.2.1 F.2.2.2.2.2.2.2.1 (fun t ht hW => jr_end F hp hP hD hS hO t ht hW) hS.2.2 hd
end JH
end
section
/-! what the tables say of a call -/
def Cb (y : MethodName) (b : ByteArray) (nL : Nat) (ret : Option FieldType) (n : Nat) : Prop := Cond.initialized y.cls ∈ tb0 ∧ Cond.code y b nL ret ∈ tb0 ∧ y.cls ≠ "java/lang/invoke/MethodHandle" ∧ y.cls ≠ "java/lang/invoke/VarHandle" ∧ (parseMethodDescriptor y.desc).map (fun d => d.parameters.length) = some n
def Cv (own : String) (i : Nat) (y : MethodName) (b : ByteArray) (nL : Nat) (ret : Option FieldType) (n : Nat) : Prop := Cb y b nL ret n ∧ Cond.methodLink own i y ∈ tb0 ∧ Cond.instanceMethod y ∈ tb0 ∧ Cond.selects y.cls y y ∈ tb0
def Cs (own : String) (i : Nat) (y : MethodName) (b : ByteArray) (nL : Nat) (ret : Option FieldType) (n : Nat) : Prop := Cb y b nL ret n ∧ Cond.methodLink own i y ∈ tb0 ∧ Cond.static y ∈ tb0
def Cn (own : String) (i : Nat) (y : MethodName) (b : ByteArray) (nL : Nat) (ret : Option FieldType) (n : Nat) : Prop := Cb y b nL ret n ∧ (∃ h : String, (own, i, y, h) ∈ nst) ∧ Cond.static y ∈ tb0
section JC
variable {G : Gc} {X : Xc} {own : String} {cc : ByteArray} {nL d : Nat} {ret : Option FieldType} {post : Option Value → Wd → Prop} {pc : Nat} {lv : List (Option Value)} {st rest : List Value} {w : Wd}
theorem sp_blind {G : Gc} {w : Wd} {args : List Value} {sz : Nat} : FrameBlind (va_Pc args (fun U => U.heap.size = sz ∧ va_P (gD G) vwCl (cels G w) U.heap ∧ va_K (gD G) vwCl (gT G) U ∧ NWs U ∧ va_D (fun _ => True) (cels G w))) := by
  intro a U g mk q
  obtain ⟨q0, q1, qP, qK, qN, qD⟩ := q
  exact ⟨q0, q1, qP, va_K.moved (u := U) (U := U.calling g mk a) (Vm.Alike.refl U.vm) qK, NWs.same (u := U) (U := U.calling g mk a) rfl qN, qD⟩
theorem sp_pre {args : List Value} {H : Heap} (F : Fx G X own cc nL d ret) (hP : va_P (gD G) vwCl (cels G w) H) (hD : va_D (xA X) (cels G w)) : ∀ U : State, U.heap = H → (xs X).WarmedH U.vm → va_Pc args (fun U => U.heap.size = H.size ∧ va_P (gD G) vwCl (cels G w) U.heap ∧ va_K (gD G) vwCl (gT G) U ∧ NWs U ∧ va_D (fun _ => True) (cels G w)) args.toArray U :=
  fun U hU hW => ⟨rfl, by rw [hU], by rw [hU]; exact hP, va_K.moved hW.alike F.2.2.2.2.2.1, NWs.warm hW F.2.2.2.2.2.2.1, hD.weaken (fun _ _ _ _ => trivial)⟩
theorem sp_go {post1 : Option Value → Wd → Prop} {a : Array Value} {H : Heap} {locs : List Loc} {ls : Array Slot} (F : Fx G X own cc nL d ret) (hD : va_D (xA X) (cels G w)) (hS : va_S (xA X) (xs X).heap H locs) (hl : lh ls (xc X).maxLocals lv)
    (hr : va_Run (xp X) (gl G) (xe X) (xR X) (xs X) (xm X) (xa X) (xb X) (xt X) (xc X) H locs 0 0 0 0 (F0 (xm X) pc ls st) rest (Qg G post1 (va_A (cels G w) H.size) a) (va_A (cels G w) H.size))
    (kk : ∀ (v : Option Value) (w' : Wd), post1 v w' → Jw G X post (pc + 3) lv (v.toList ++ rest) w') :
    W (xp X) (gl G) (xe X) (xR X) (xs X) (xm X) (xa X) (xb X) (xt X) (xc X) H locs 0 0 (MQ (xb X) (Qg G post (xA X)) (xa X) (xs X) 0 0 (xA X)) (F0 (xm X) pc ls st) := by
  have hA : ∀ q, va_A (cels G w) H.size q → xA X q := fun q h => by
    rcases h with ⟨k, e, h⟩ | h
    · exact hD.2 k (q, e) h
    · exact F.2.2.2.2.2.2.2.2.2.2.2.2.2 q (Nat.le_trans hS.1 h)
  intro T hT XX
  obtain ⟨v, st₀, t, T', L, h0, X', hL, e1, e2, ⟨⟨v', w', hv, hp, hO', hP', hK', hD'⟩, hz, hk⟩, go⟩ := hr T hT XX
  cases hv
  rw [h0] at hz hk
  obtain ⟨t2, a1, b1⟩ := kk v w' hp T'.heap (locs ++ L) ls (by rw [e1]; exact hP') (hD'.weaken (fun _ q _ h => hA q.1 h))
    ⟨Nat.le_trans hS.1 (by rw [e1]; exact hz), fun q h1 h2 => by rw [e1, hk q (Nat.lt_of_lt_of_le h1 hS.1) (fun z => h2 (hA q z))]; exact hS.2.1 q h1 h2, fun q hq => by
      rcases List.mem_append.mp hq with h | h
      · exact hS.2.2 q h
      · exact hA _ (hL q h)⟩ hO' hl T' rfl X'
  exact ⟨t2, go t2 a1, b1⟩
theorem cb_of {y : MethodName} {b : ByteArray} {nL' n d' i : Nat} {ret' : Option FieldType} (F : Fx G X own cc nL d ret) (L : Cb y b nL' ret' n) (hl : Cond.methodLink own i y ∈ tb0) (hdd : d' + 1 ≤ d) (hml : nL' ≤ 21) :
    CallB (xR X) (xs X) (xa X) own i y b nL' ret' (Cond.code y b nL' ret' :: tb0) { frames := d', cells := 0, slots := 0, locals := 40 * d' } 0 0 n :=
  callB_of n F.2.2.2.2.1 (tb_good y b nL' ret' (fun _ h => h) L.2.1) rfl rfl rfl (F.2.2.2.2.1 _ L.1) (F.2.2.2.2.1 _ hl) ⟨L.2.2.1, L.2.2.2.1, L.2.2.2.2⟩
    ⟨by rw [F.2.2.2.2.2.2.2.2.2.1]; exact hdd, by rw [F.2.2.2.2.2.2.2.2.2.2.1]; show 8 + (nL' + 11) + 40 * d' ≤ 40 * d; omega⟩
theorem jr_callV (F : Fx G X own cc nL d ret) {i k ci d' nL' n : Nat} {y : MethodName} {b : ByteArray} {ret' : Option FieldType} {fs : List Nat} {As : List Value} {q : vw_C} {post1 : Option Value → Wd → Prop} (hd : decode cc pc = .ok (.invokevirtual i, 3)) (L : Cv own i y b nL' ret' n)
    (hc : Sp G d' y b nL' ret' (.ref (ga G k) :: As) w post1) (hk : k < gn G) (hs : gS G k = .inr (ci, fs)) (hq : vwCl[ci]? = some q) (hqc : q.1 = y.cls) (hn : As.length = n) (hdd : d' + 1 ≤ d) (hml : nL' ≤ 21) (hst : st = As.reverse ++ .ref (ga G k) :: rest) (hcat : (rest.map fun v => v.category).sum ≤ 8)
    (kk : ∀ (v : Option Value) (w' : Wd), post1 v w' → Jw G X post (pc + 3) lv (v.toList ++ rest) w') : Jw G X post pc lv st w := by
  intro H locs ls hP hD hS hO hl
  refine sp_go F hD hS hl (va_runV (As := As) ⟨F.1, F.2.1, F.2.2.1, F.2.2.2.1, F.2.2.2.2.1⟩ (hc hO H.size) ⟨cb_of F L.1 L.2.1 hdd hml, F.2.2.2.2.1 _ L.2.2.1, F.2.2.2.2.1 _ L.2.2.2⟩ ⟨sp_blind, ?_, sp_pre F hP hD⟩ rfl hn (by rw [← F.2.2.1]; exact hl.1) hst (lv_room hcat) hd ⟨Nat.zero_le _, Nat.zero_le _⟩) kk
  rw [← hqc]
  exact va_recv F.2.2.2.2.2.1 hP hq (by rw [cels_get hk, cel_O hs])
theorem jr_callS (F : Fx G X own cc nL d ret) {i d' nL' n : Nat} {y : MethodName} {b : ByteArray} {ret' : Option FieldType} {As : List Value} {post1 : Option Value → Wd → Prop} (hd : decode cc pc = .ok (.invokestatic i, 3)) (L : Cs own i y b nL' ret' n)
    (hc : Sp G d' y b nL' ret' As w post1) (hn : As.length = n) (hdd : d' + 1 ≤ d) (hml : nL' ≤ 21) (hst : st = As.reverse ++ rest) (hcat : (rest.map fun v => v.category).sum ≤ 8)
    (kk : ∀ (v : Option Value) (w' : Wd), post1 v w' → Jw G X post (pc + 3) lv (v.toList ++ rest) w') : Jw G X post pc lv st w := by
  intro H locs ls hP hD hS hO hl
  exact sp_go F hD hS hl (va_runS (As := As) ⟨F.1, F.2.1, F.2.2.1, F.2.2.2.1, F.2.2.2.2.1⟩ (hc hO H.size) ⟨cb_of F L.1 L.2.1 hdd hml, F.2.2.2.2.1 _ L.2.2⟩ ⟨sp_blind, sp_pre F hP hD⟩ rfl hn (by rw [← F.2.2.1]; exact hl.1) hst (lv_room hcat) hd ⟨Nat.zero_le _, Nat.zero_le _⟩) kk
theorem jr_callN (F : Fx G X own cc nL d ret) {i d' nL' n : Nat} {y : MethodName} {b : ByteArray} {ret' : Option FieldType} {As : List Value} {post1 : Option Value → Wd → Prop} (hd : decode cc pc = .ok (.invokestatic i, 3)) (L : Cn own i y b nL' ret' n)
    (hc : Sp G d' y b nL' ret' As w post1) (hn : As.length = n) (hdd : d' + 1 ≤ d) (hml : nL' ≤ 21) (hst : st = As.reverse ++ rest) (hcat : (rest.map fun v => v.category).sum ≤ 8)
    (kk : ∀ (v : Option Value) (w' : Wd), post1 v w' → Jw G X post (pc + 3) lv (v.toList ++ rest) w') : Jw G X post pc lv st w := by
  intro H locs ls hP hD hS hO hl
  obtain ⟨L1, ⟨h, L2⟩, L3⟩ := L
  exact sp_go F hD hS hl (va_runSN (As := As) ⟨F.1, F.2.1, F.2.2.1, F.2.2.2.1, F.2.2.2.2.1⟩ (hc hO H.size) ⟨va_cnB n F.2.2.2.2.1 (tb_good y b nL' ret' (fun _ h => h) L1.2.1) rfl rfl rfl (F.2.2.2.2.2.2.1 _ L2) (F.2.2.2.2.1 _ L1.1) ⟨L1.2.2.1, L1.2.2.2.1, L1.2.2.2.2⟩ ⟨by rw [F.2.2.2.2.2.2.2.2.2.1]; exact hdd, by rw [F.2.2.2.2.2.2.2.2.2.2.1]; show 8 + (nL' + 11) + 40 * d' ≤ 40 * d; omega⟩, F.2.2.2.2.1 _ L3, trivial⟩ ⟨sp_blind, sp_pre F hP hD⟩ rfl hn (by rw [← F.2.2.1]; exact hl.1) hst (lv_room hcat) hd ⟨Nat.zero_le _, Nat.zero_le _⟩) kk
theorem jr_aret (F : Fx G X own cc nL d ret) {n : String} (hr : ret = some (.object n)) {a : Nat} (hd : decode cc pc = .ok (.areturn, 1)) (hp : post (some (.ref a)) w) : Jw G X post pc lv [.ref a] w := by
  subst hr
  intro H locs ls hP hD hS hO hl
  exact W.aret (hlocks := F.2.2.2.2.2.2.2.2.1) F.1 F.2.1 F.2.2.2.2.2.2.2.1 (Or.inl ⟨n, rfl⟩) (Or.inr ⟨a, rfl⟩) (fun t ht hW => jr_end F hp hP hD hS hO t ht hW) hS.2.2 hd
end JC
end
