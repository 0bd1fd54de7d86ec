section
-- ===== PART A: goes FIRST, ahead of the names: the tables' words, and 'selects' of the private methods out of them =====
/-- a private method of a class that the tables say can be made, by its rows of tables_1 -/
def lw_okq (q : MethodName × Nat) : Prop := (q.1.cls ≠ "java/lang/invoke/MethodHandle" ∧ q.1.cls ≠ "java/lang/invoke/VarHandle") ∧ Cond.instantiable q.1.cls q.2 ∈ tables_1 ∧ Cond.privateMethod q.1 ∈ tables_1 ∧ Cond.instanceMethod q.1 ∈ tables_1
theorem lw_p0 : lw_okq (⟨"ReignLadders$Reigns", "counted", "(II)I"⟩, 5) := ⟨⟨by decide +kernel, by decide +kernel⟩, List.mem_of_getElem? (i := 22) (by decide +kernel), List.mem_of_getElem? (i := 297) (by decide +kernel), List.mem_of_getElem? (i := 298) (by decide +kernel)⟩
theorem lw_p1 : lw_okq (⟨"ReignLadders$Reigns", "otherReading", "(II)I"⟩, 5) := ⟨⟨by decide +kernel, by decide +kernel⟩, List.mem_of_getElem? (i := 22) (by decide +kernel), List.mem_of_getElem? (i := 301) (by decide +kernel), List.mem_of_getElem? (i := 302) (by decide +kernel)⟩
theorem lw_p2 : lw_okq (⟨"ReignLadders", "arePair", "(II)Z"⟩, 9) := ⟨⟨by decide +kernel, by decide +kernel⟩, List.mem_of_getElem? (i := 14) (by decide +kernel), List.mem_of_getElem? (i := 337) (by decide +kernel), List.mem_of_getElem? (i := 338) (by decide +kernel)⟩
theorem lw_p3 : lw_okq (⟨"ReignLadders$Page", "after", "(I)I"⟩, 4) := ⟨⟨by decide +kernel, by decide +kernel⟩, List.mem_of_getElem? (i := 114) (by decide +kernel), List.mem_of_getElem? (i := 448) (by decide +kernel), List.mem_of_getElem? (i := 449) (by decide +kernel)⟩
theorem lw_p4 : lw_okq (⟨"ReignLadders$Page", "afterFactorEnds", "(I)I"⟩, 4) := ⟨⟨by decide +kernel, by decide +kernel⟩, List.mem_of_getElem? (i := 114) (by decide +kernel), List.mem_of_getElem? (i := 458) (by decide +kernel), List.mem_of_getElem? (i := 459) (by decide +kernel)⟩
theorem lw_p5 : lw_okq (⟨"ReignLadders", "schoolOf", "(I)LReignLadders$School;"⟩, 9) := ⟨⟨by decide +kernel, by decide +kernel⟩, List.mem_of_getElem? (i := 14) (by decide +kernel), List.mem_of_getElem? (i := 474) (by decide +kernel), List.mem_of_getElem? (i := 475) (by decide +kernel)⟩
theorem lw_p6 : lw_okq (⟨"ReignLadders", "countFor", "(II)I"⟩, 9) := ⟨⟨by decide +kernel, by decide +kernel⟩, List.mem_of_getElem? (i := 14) (by decide +kernel), List.mem_of_getElem? (i := 505) (by decide +kernel), List.mem_of_getElem? (i := 506) (by decide +kernel)⟩
theorem lw_p7 : lw_okq (⟨"ReignLadders$Subject", "begin", "()V"⟩, 7) := ⟨⟨by decide +kernel, by decide +kernel⟩, List.mem_of_getElem? (i := 86) (by decide +kernel), List.mem_of_getElem? (i := 523) (by decide +kernel), List.mem_of_getElem? (i := 524) (by decide +kernel)⟩
theorem lw_p8 : lw_okq (⟨"ReignLadders$Subject", "end", "()J"⟩, 7) := ⟨⟨by decide +kernel, by decide +kernel⟩, List.mem_of_getElem? (i := 86) (by decide +kernel), List.mem_of_getElem? (i := 527) (by decide +kernel), List.mem_of_getElem? (i := 528) (by decide +kernel)⟩
theorem lw_p9 : lw_okq (⟨"ReignLadders$Subject", "take", "(J)V"⟩, 7) := ⟨⟨by decide +kernel, by decide +kernel⟩, List.mem_of_getElem? (i := 86) (by decide +kernel), List.mem_of_getElem? (i := 531) (by decide +kernel), List.mem_of_getElem? (i := 532) (by decide +kernel)⟩
theorem lw_p10 : lw_okq (⟨"ReignLadders$Subject", "valueOf", "(I)I"⟩, 7) := ⟨⟨by decide +kernel, by decide +kernel⟩, List.mem_of_getElem? (i := 86) (by decide +kernel), List.mem_of_getElem? (i := 539) (by decide +kernel), List.mem_of_getElem? (i := 540) (by decide +kernel)⟩
theorem lw_p11 : lw_okq (⟨"ReignLadders", "beliefFor", "(II)I"⟩, 9) := ⟨⟨by decide +kernel, by decide +kernel⟩, List.mem_of_getElem? (i := 14) (by decide +kernel), List.mem_of_getElem? (i := 550) (by decide +kernel), List.mem_of_getElem? (i := 551) (by decide +kernel)⟩
theorem lw_p12 : lw_okq (⟨"ReignLadders", "lay", "(II)I"⟩, 9) := ⟨⟨by decide +kernel, by decide +kernel⟩, List.mem_of_getElem? (i := 14) (by decide +kernel), List.mem_of_getElem? (i := 561) (by decide +kernel), List.mem_of_getElem? (i := 562) (by decide +kernel)⟩
theorem lw_p13 : lw_okq (⟨"ReignLadders$Ladders", "layBehind", "(III)V"⟩, 18) := ⟨⟨by decide +kernel, by decide +kernel⟩, List.mem_of_getElem? (i := 133) (by decide +kernel), List.mem_of_getElem? (i := 582) (by decide +kernel), List.mem_of_getElem? (i := 583) (by decide +kernel)⟩
theorem lw_p14 : lw_okq (⟨"ReignLadders", "believedBy", "(II)I"⟩, 9) := ⟨⟨by decide +kernel, by decide +kernel⟩, List.mem_of_getElem? (i := 14) (by decide +kernel), List.mem_of_getElem? (i := 599) (by decide +kernel), List.mem_of_getElem? (i := 600) (by decide +kernel)⟩
theorem lw_p15 : lw_okq (⟨"ReignLadders$Ladders", "layTies", "(I)Z"⟩, 18) := ⟨⟨by decide +kernel, by decide +kernel⟩, List.mem_of_getElem? (i := 133) (by decide +kernel), List.mem_of_getElem? (i := 612) (by decide +kernel), List.mem_of_getElem? (i := 613) (by decide +kernel)⟩
def lw_privs_1 : List (MethodName × Nat) := [(⟨"ReignLadders$Reigns", "counted", "(II)I"⟩, 5), (⟨"ReignLadders$Reigns", "otherReading", "(II)I"⟩, 5), (⟨"ReignLadders", "arePair", "(II)Z"⟩, 9), (⟨"ReignLadders$Page", "after", "(I)I"⟩, 4), (⟨"ReignLadders$Page", "afterFactorEnds", "(I)I"⟩, 4), (⟨"ReignLadders", "schoolOf", "(I)LReignLadders$School;"⟩, 9), (⟨"ReignLadders", "countFor", "(II)I"⟩, 9), (⟨"ReignLadders$Subject", "begin", "()V"⟩, 7), (⟨"ReignLadders$Subject", "end", "()J"⟩, 7), (⟨"ReignLadders$Subject", "take", "(J)V"⟩, 7), (⟨"ReignLadders$Subject", "valueOf", "(I)I"⟩, 7), (⟨"ReignLadders", "beliefFor", "(II)I"⟩, 9), (⟨"ReignLadders", "lay", "(II)I"⟩, 9), (⟨"ReignLadders$Ladders", "layBehind", "(III)V"⟩, 18), (⟨"ReignLadders", "believedBy", "(II)I"⟩, 9), (⟨"ReignLadders$Ladders", "layTies", "(I)Z"⟩, 18)]
theorem lw_r1 : ∀ q ∈ lw_privs_1, lw_okq q := List.forall_mem_cons.mpr ⟨lw_p0, List.forall_mem_cons.mpr ⟨lw_p1, List.forall_mem_cons.mpr ⟨lw_p2, List.forall_mem_cons.mpr ⟨lw_p3, List.forall_mem_cons.mpr ⟨lw_p4, List.forall_mem_cons.mpr ⟨lw_p5, List.forall_mem_cons.mpr ⟨lw_p6, List.forall_mem_cons.mpr ⟨lw_p7, List.forall_mem_cons.mpr ⟨lw_p8, List.forall_mem_cons.mpr ⟨lw_p9, List.forall_mem_cons.mpr ⟨lw_p10, List.forall_mem_cons.mpr ⟨lw_p11, List.forall_mem_cons.mpr ⟨lw_p12, List.forall_mem_cons.mpr ⟨lw_p13, List.forall_mem_cons.mpr ⟨lw_p14, List.forall_mem_cons.mpr ⟨lw_p15, fun _ h => absurd h List.not_mem_nil⟩⟩⟩⟩⟩⟩⟩⟩⟩⟩⟩⟩⟩⟩⟩⟩
theorem lw_p16 : lw_okq (⟨"ReignLadders$Ladders", "layTie", "(I)Z"⟩, 18) := ⟨⟨by decide +kernel, by decide +kernel⟩, List.mem_of_getElem? (i := 133) (by decide +kernel), List.mem_of_getElem? (i := 624) (by decide +kernel), List.mem_of_getElem? (i := 625) (by decide +kernel)⟩
theorem lw_p17 : lw_okq (⟨"ReignLadders$Ladders", "layPair", "(LReignLadders$Ties;I)Z"⟩, 18) := ⟨⟨by decide +kernel, by decide +kernel⟩, List.mem_of_getElem? (i := 133) (by decide +kernel), List.mem_of_getElem? (i := 629) (by decide +kernel), List.mem_of_getElem? (i := 630) (by decide +kernel)⟩
theorem lw_p18 : lw_okq (⟨"ReignLadders$Ladders", "takeForks", "(I)Z"⟩, 18) := ⟨⟨by decide +kernel, by decide +kernel⟩, List.mem_of_getElem? (i := 133) (by decide +kernel), List.mem_of_getElem? (i := 642) (by decide +kernel), List.mem_of_getElem? (i := 643) (by decide +kernel)⟩
theorem lw_p19 : lw_okq (⟨"ReignLadders$Ladders", "tryYears", "(Z)V"⟩, 18) := ⟨⟨by decide +kernel, by decide +kernel⟩, List.mem_of_getElem? (i := 133) (by decide +kernel), List.mem_of_getElem? (i := 647) (by decide +kernel), List.mem_of_getElem? (i := 648) (by decide +kernel)⟩
theorem lw_p20 : lw_okq (⟨"ReignLadders$Ladders", "yearsOf", "(I)I"⟩, 18) := ⟨⟨by decide +kernel, by decide +kernel⟩, List.mem_of_getElem? (i := 133) (by decide +kernel), List.mem_of_getElem? (i := 651) (by decide +kernel), List.mem_of_getElem? (i := 652) (by decide +kernel)⟩
theorem lw_p21 : lw_okq (⟨"ReignLadders$Ladders", "beginning", "(II)I"⟩, 18) := ⟨⟨by decide +kernel, by decide +kernel⟩, List.mem_of_getElem? (i := 133) (by decide +kernel), List.mem_of_getElem? (i := 655) (by decide +kernel), List.mem_of_getElem? (i := 656) (by decide +kernel)⟩
theorem lw_p22 : lw_okq (⟨"ReignLadders$Ladders", "pointOf", "(I)I"⟩, 18) := ⟨⟨by decide +kernel, by decide +kernel⟩, List.mem_of_getElem? (i := 133) (by decide +kernel), List.mem_of_getElem? (i := 659) (by decide +kernel), List.mem_of_getElem? (i := 660) (by decide +kernel)⟩
theorem lw_p23 : lw_okq (⟨"ReignLadders$Ladders", "widen", "(II)V"⟩, 18) := ⟨⟨by decide +kernel, by decide +kernel⟩, List.mem_of_getElem? (i := 133) (by decide +kernel), List.mem_of_getElem? (i := 672) (by decide +kernel), List.mem_of_getElem? (i := 673) (by decide +kernel)⟩
theorem lw_p24 : lw_okq (⟨"ReignLadders", "holders", "(III)I"⟩, 9) := ⟨⟨by decide +kernel, by decide +kernel⟩, List.mem_of_getElem? (i := 14) (by decide +kernel), List.mem_of_getElem? (i := 691) (by decide +kernel), List.mem_of_getElem? (i := 692) (by decide +kernel)⟩
theorem lw_p25 : lw_okq (⟨"ReignLadders", "doubted", "(II)I"⟩, 9) := ⟨⟨by decide +kernel, by decide +kernel⟩, List.mem_of_getElem? (i := 14) (by decide +kernel), List.mem_of_getElem? (i := 699) (by decide +kernel), List.mem_of_getElem? (i := 700) (by decide +kernel)⟩
theorem lw_p26 : lw_okq (⟨"ReignLadders", "afloat", "(II)I"⟩, 9) := ⟨⟨by decide +kernel, by decide +kernel⟩, List.mem_of_getElem? (i := 14) (by decide +kernel), List.mem_of_getElem? (i := 713) (by decide +kernel), List.mem_of_getElem? (i := 714) (by decide +kernel)⟩
theorem lw_p27 : lw_okq (⟨"ReignLadders", "gain", "(IIII)I"⟩, 9) := ⟨⟨by decide +kernel, by decide +kernel⟩, List.mem_of_getElem? (i := 14) (by decide +kernel), List.mem_of_getElem? (i := 759) (by decide +kernel), List.mem_of_getElem? (i := 760) (by decide +kernel)⟩
theorem lw_p28 : lw_okq (⟨"ReignLadders", "sayingsDigest", "(JI)J"⟩, 9) := ⟨⟨by decide +kernel, by decide +kernel⟩, List.mem_of_getElem? (i := 14) (by decide +kernel), List.mem_of_getElem? (i := 822) (by decide +kernel), List.mem_of_getElem? (i := 823) (by decide +kernel)⟩
theorem lw_p29 : lw_okq (⟨"ReignLaddersModel", "lastOf", "(I)I"⟩, 34) := ⟨⟨by decide +kernel, by decide +kernel⟩, List.mem_of_getElem? (i := 839) (by decide +kernel), List.mem_of_getElem? (i := 960) (by decide +kernel), List.mem_of_getElem? (i := 961) (by decide +kernel)⟩
theorem lw_p30 : lw_okq (⟨"ReignLaddersModel", "isReign", "(I)Z"⟩, 34) := ⟨⟨by decide +kernel, by decide +kernel⟩, List.mem_of_getElem? (i := 839) (by decide +kernel), List.mem_of_getElem? (i := 971) (by decide +kernel), List.mem_of_getElem? (i := 972) (by decide +kernel)⟩
theorem lw_p31 : lw_okq (⟨"ReignLaddersModel", "aboutOf", "(II)I"⟩, 34) := ⟨⟨by decide +kernel, by decide +kernel⟩, List.mem_of_getElem? (i := 839) (by decide +kernel), List.mem_of_getElem? (i := 975) (by decide +kernel), List.mem_of_getElem? (i := 976) (by decide +kernel)⟩
def lw_privs_2 : List (MethodName × Nat) := [(⟨"ReignLadders$Ladders", "layTie", "(I)Z"⟩, 18), (⟨"ReignLadders$Ladders", "layPair", "(LReignLadders$Ties;I)Z"⟩, 18), (⟨"ReignLadders$Ladders", "takeForks", "(I)Z"⟩, 18), (⟨"ReignLadders$Ladders", "tryYears", "(Z)V"⟩, 18), (⟨"ReignLadders$Ladders", "yearsOf", "(I)I"⟩, 18), (⟨"ReignLadders$Ladders", "beginning", "(II)I"⟩, 18), (⟨"ReignLadders$Ladders", "pointOf", "(I)I"⟩, 18), (⟨"ReignLadders$Ladders", "widen", "(II)V"⟩, 18), (⟨"ReignLadders", "holders", "(III)I"⟩, 9), (⟨"ReignLadders", "doubted", "(II)I"⟩, 9), (⟨"ReignLadders", "afloat", "(II)I"⟩, 9), (⟨"ReignLadders", "gain", "(IIII)I"⟩, 9), (⟨"ReignLadders", "sayingsDigest", "(JI)J"⟩, 9), (⟨"ReignLaddersModel", "lastOf", "(I)I"⟩, 34), (⟨"ReignLaddersModel", "isReign", "(I)Z"⟩, 34), (⟨"ReignLaddersModel", "aboutOf", "(II)I"⟩, 34)]
theorem lw_r2 : ∀ q ∈ lw_privs_2, lw_okq q := List.forall_mem_cons.mpr ⟨lw_p16, List.forall_mem_cons.mpr ⟨lw_p17, List.forall_mem_cons.mpr ⟨lw_p18, List.forall_mem_cons.mpr ⟨lw_p19, List.forall_mem_cons.mpr ⟨lw_p20, List.forall_mem_cons.mpr ⟨lw_p21, List.forall_mem_cons.mpr ⟨lw_p22, List.forall_mem_cons.mpr ⟨lw_p23, List.forall_mem_cons.mpr ⟨lw_p24, List.forall_mem_cons.mpr ⟨lw_p25, List.forall_mem_cons.mpr ⟨lw_p26, List.forall_mem_cons.mpr ⟨lw_p27, List.forall_mem_cons.mpr ⟨lw_p28, List.forall_mem_cons.mpr ⟨lw_p29, List.forall_mem_cons.mpr ⟨lw_p30, List.forall_mem_cons.mpr ⟨lw_p31, fun _ h => absurd h List.not_mem_nil⟩⟩⟩⟩⟩⟩⟩⟩⟩⟩⟩⟩⟩⟩⟩⟩
theorem lw_p32 : lw_okq (⟨"ReignLaddersModel", "leastOf", "(II)I"⟩, 34) := ⟨⟨by decide +kernel, by decide +kernel⟩, List.mem_of_getElem? (i := 839) (by decide +kernel), List.mem_of_getElem? (i := 987) (by decide +kernel), List.mem_of_getElem? (i := 988) (by decide +kernel)⟩
theorem lw_p33 : lw_okq (⟨"ReignLaddersModel", "otherLength", "(II)I"⟩, 34) := ⟨⟨by decide +kernel, by decide +kernel⟩, List.mem_of_getElem? (i := 839) (by decide +kernel), List.mem_of_getElem? (i := 991) (by decide +kernel), List.mem_of_getElem? (i := 992) (by decide +kernel)⟩
theorem lw_p34 : lw_okq (⟨"ReignLaddersModel", "mostOf", "(II)I"⟩, 34) := ⟨⟨by decide +kernel, by decide +kernel⟩, List.mem_of_getElem? (i := 839) (by decide +kernel), List.mem_of_getElem? (i := 995) (by decide +kernel), List.mem_of_getElem? (i := 996) (by decide +kernel)⟩
theorem lw_p35 : lw_okq (⟨"ReignLaddersModel", "lengthsOf", "(II)I"⟩, 34) := ⟨⟨by decide +kernel, by decide +kernel⟩, List.mem_of_getElem? (i := 839) (by decide +kernel), List.mem_of_getElem? (i := 999) (by decide +kernel), List.mem_of_getElem? (i := 1000) (by decide +kernel)⟩
theorem lw_p36 : lw_okq (⟨"ReignLaddersModel", "come", "(IIIIIII)I"⟩, 34) := ⟨⟨by decide +kernel, by decide +kernel⟩, List.mem_of_getElem? (i := 839) (by decide +kernel), List.mem_of_getElem? (i := 1014) (by decide +kernel), List.mem_of_getElem? (i := 1015) (by decide +kernel)⟩
theorem lw_p37 : lw_okq (⟨"ReignLaddersModel", "isTie", "(I)Z"⟩, 34) := ⟨⟨by decide +kernel, by decide +kernel⟩, List.mem_of_getElem? (i := 839) (by decide +kernel), List.mem_of_getElem? (i := 1037) (by decide +kernel), List.mem_of_getElem? (i := 1038) (by decide +kernel)⟩
theorem lw_p38 : lw_okq (⟨"ReignLaddersModel", "readText", "()V"⟩, 34) := ⟨⟨by decide +kernel, by decide +kernel⟩, List.mem_of_getElem? (i := 839) (by decide +kernel), List.mem_of_getElem? (i := 1058) (by decide +kernel), List.mem_of_getElem? (i := 1059) (by decide +kernel)⟩
theorem lw_p39 : lw_okq (⟨"ReignLaddersModel", "next", "(III)I"⟩, 34) := ⟨⟨by decide +kernel, by decide +kernel⟩, List.mem_of_getElem? (i := 839) (by decide +kernel), List.mem_of_getElem? (i := 1062) (by decide +kernel), List.mem_of_getElem? (i := 1063) (by decide +kernel)⟩
theorem lw_p40 : lw_okq (⟨"ReignLaddersModel", "countsOf", "(II)I"⟩, 34) := ⟨⟨by decide +kernel, by decide +kernel⟩, List.mem_of_getElem? (i := 839) (by decide +kernel), List.mem_of_getElem? (i := 1084) (by decide +kernel), List.mem_of_getElem? (i := 1085) (by decide +kernel)⟩
theorem lw_p41 : lw_okq (⟨"ReignLaddersModel", "saysOf", "(III)I"⟩, 34) := ⟨⟨by decide +kernel, by decide +kernel⟩, List.mem_of_getElem? (i := 839) (by decide +kernel), List.mem_of_getElem? (i := 1088) (by decide +kernel), List.mem_of_getElem? (i := 1089) (by decide +kernel)⟩
theorem lw_p42 : lw_okq (⟨"ReignLaddersModel", "holds", "(I)Z"⟩, 34) := ⟨⟨by decide +kernel, by decide +kernel⟩, List.mem_of_getElem? (i := 839) (by decide +kernel), List.mem_of_getElem? (i := 1092) (by decide +kernel), List.mem_of_getElem? (i := 1093) (by decide +kernel)⟩
theorem lw_p43 : lw_okq (⟨"ReignLaddersModel", "openGroup", "()V"⟩, 34) := ⟨⟨by decide +kernel, by decide +kernel⟩, List.mem_of_getElem? (i := 839) (by decide +kernel), List.mem_of_getElem? (i := 1096) (by decide +kernel), List.mem_of_getElem? (i := 1097) (by decide +kernel)⟩
theorem lw_p44 : lw_okq (⟨"ReignLaddersModel", "factor", "(Z)V"⟩, 34) := ⟨⟨by decide +kernel, by decide +kernel⟩, List.mem_of_getElem? (i := 839) (by decide +kernel), List.mem_of_getElem? (i := 1100) (by decide +kernel), List.mem_of_getElem? (i := 1101) (by decide +kernel)⟩
theorem lw_p45 : lw_okq (⟨"ReignLaddersModel", "believesOf", "(II)I"⟩, 34) := ⟨⟨by decide +kernel, by decide +kernel⟩, List.mem_of_getElem? (i := 839) (by decide +kernel), List.mem_of_getElem? (i := 1111) (by decide +kernel), List.mem_of_getElem? (i := 1112) (by decide +kernel)⟩
theorem lw_p46 : lw_okq (⟨"ReignLaddersModel", "tiesOf", "(II)I"⟩, 34) := ⟨⟨by decide +kernel, by decide +kernel⟩, List.mem_of_getElem? (i := 839) (by decide +kernel), List.mem_of_getElem? (i := 1119) (by decide +kernel), List.mem_of_getElem? (i := 1120) (by decide +kernel)⟩
theorem lw_p47 : lw_okq (⟨"ReignLaddersModel", "isKnown", "(II)Z"⟩, 34) := ⟨⟨by decide +kernel, by decide +kernel⟩, List.mem_of_getElem? (i := 839) (by decide +kernel), List.mem_of_getElem? (i := 1123) (by decide +kernel), List.mem_of_getElem? (i := 1124) (by decide +kernel)⟩
def lw_privs_3 : List (MethodName × Nat) := [(⟨"ReignLaddersModel", "leastOf", "(II)I"⟩, 34), (⟨"ReignLaddersModel", "otherLength", "(II)I"⟩, 34), (⟨"ReignLaddersModel", "mostOf", "(II)I"⟩, 34), (⟨"ReignLaddersModel", "lengthsOf", "(II)I"⟩, 34), (⟨"ReignLaddersModel", "come", "(IIIIIII)I"⟩, 34), (⟨"ReignLaddersModel", "isTie", "(I)Z"⟩, 34), (⟨"ReignLaddersModel", "readText", "()V"⟩, 34), (⟨"ReignLaddersModel", "next", "(III)I"⟩, 34), (⟨"ReignLaddersModel", "countsOf", "(II)I"⟩, 34), (⟨"ReignLaddersModel", "saysOf", "(III)I"⟩, 34), (⟨"ReignLaddersModel", "holds", "(I)Z"⟩, 34), (⟨"ReignLaddersModel", "openGroup", "()V"⟩, 34), (⟨"ReignLaddersModel", "factor", "(Z)V"⟩, 34), (⟨"ReignLaddersModel", "believesOf", "(II)I"⟩, 34), (⟨"ReignLaddersModel", "tiesOf", "(II)I"⟩, 34), (⟨"ReignLaddersModel", "isKnown", "(II)Z"⟩, 34)]
theorem lw_r3 : ∀ q ∈ lw_privs_3, lw_okq q := List.forall_mem_cons.mpr ⟨lw_p32, List.forall_mem_cons.mpr ⟨lw_p33, List.forall_mem_cons.mpr ⟨lw_p34, List.forall_mem_cons.mpr ⟨lw_p35, List.forall_mem_cons.mpr ⟨lw_p36, List.forall_mem_cons.mpr ⟨lw_p37, List.forall_mem_cons.mpr ⟨lw_p38, List.forall_mem_cons.mpr ⟨lw_p39, List.forall_mem_cons.mpr ⟨lw_p40, List.forall_mem_cons.mpr ⟨lw_p41, List.forall_mem_cons.mpr ⟨lw_p42, List.forall_mem_cons.mpr ⟨lw_p43, List.forall_mem_cons.mpr ⟨lw_p44, List.forall_mem_cons.mpr ⟨lw_p45, List.forall_mem_cons.mpr ⟨lw_p46, List.forall_mem_cons.mpr ⟨lw_p47, fun _ h => absurd h List.not_mem_nil⟩⟩⟩⟩⟩⟩⟩⟩⟩⟩⟩⟩⟩⟩⟩⟩
theorem lw_p48 : lw_okq (⟨"ReignLaddersModel", "solve", "(IIII)V"⟩, 34) := ⟨⟨by decide +kernel, by decide +kernel⟩, List.mem_of_getElem? (i := 839) (by decide +kernel), List.mem_of_getElem? (i := 1127) (by decide +kernel), List.mem_of_getElem? (i := 1128) (by decide +kernel)⟩
theorem lw_p49 : lw_okq (⟨"ReignLaddersModel", "layChoice", "(II)Z"⟩, 34) := ⟨⟨by decide +kernel, by decide +kernel⟩, List.mem_of_getElem? (i := 839) (by decide +kernel), List.mem_of_getElem? (i := 1131) (by decide +kernel), List.mem_of_getElem? (i := 1132) (by decide +kernel)⟩
theorem lw_p50 : lw_okq (⟨"ReignLaddersModel", "bind", "(IIII)V"⟩, 34) := ⟨⟨by decide +kernel, by decide +kernel⟩, List.mem_of_getElem? (i := 839) (by decide +kernel), List.mem_of_getElem? (i := 1136) (by decide +kernel), List.mem_of_getElem? (i := 1137) (by decide +kernel)⟩
theorem lw_p51 : lw_okq (⟨"ReignLaddersModel", "misreadAhead", "(I)I"⟩, 34) := ⟨⟨by decide +kernel, by decide +kernel⟩, List.mem_of_getElem? (i := 839) (by decide +kernel), List.mem_of_getElem? (i := 1140) (by decide +kernel), List.mem_of_getElem? (i := 1141) (by decide +kernel)⟩
theorem lw_p52 : lw_okq (⟨"ReignLaddersModel", "layTie", "(II)V"⟩, 34) := ⟨⟨by decide +kernel, by decide +kernel⟩, List.mem_of_getElem? (i := 839) (by decide +kernel), List.mem_of_getElem? (i := 1144) (by decide +kernel), List.mem_of_getElem? (i := 1145) (by decide +kernel)⟩
theorem lw_p53 : lw_okq (⟨"ReignLaddersModel", "closeWays", "()Z"⟩, 34) := ⟨⟨by decide +kernel, by decide +kernel⟩, List.mem_of_getElem? (i := 839) (by decide +kernel), List.mem_of_getElem? (i := 1149) (by decide +kernel), List.mem_of_getElem? (i := 1150) (by decide +kernel)⟩
theorem lw_p54 : lw_okq (⟨"ReignLaddersModel", "take", "(I)V"⟩, 34) := ⟨⟨by decide +kernel, by decide +kernel⟩, List.mem_of_getElem? (i := 839) (by decide +kernel), List.mem_of_getElem? (i := 1153) (by decide +kernel), List.mem_of_getElem? (i := 1154) (by decide +kernel)⟩
theorem lw_p55 : lw_okq (⟨"ReignLaddersModel", "floatsOf", "(II)I"⟩, 34) := ⟨⟨by decide +kernel, by decide +kernel⟩, List.mem_of_getElem? (i := 839) (by decide +kernel), List.mem_of_getElem? (i := 1176) (by decide +kernel), List.mem_of_getElem? (i := 1177) (by decide +kernel)⟩
theorem lw_p56 : lw_okq (⟨"ReignLaddersModel", "openNow", "(I)I"⟩, 34) := ⟨⟨by decide +kernel, by decide +kernel⟩, List.mem_of_getElem? (i := 839) (by decide +kernel), List.mem_of_getElem? (i := 1184) (by decide +kernel), List.mem_of_getElem? (i := 1185) (by decide +kernel)⟩
theorem lw_p57 : lw_okq (⟨"ReignLaddersModel", "closesOf", "(III)I"⟩, 34) := ⟨⟨by decide +kernel, by decide +kernel⟩, List.mem_of_getElem? (i := 839) (by decide +kernel), List.mem_of_getElem? (i := 1200) (by decide +kernel), List.mem_of_getElem? (i := 1201) (by decide +kernel)⟩
theorem lw_p58 : lw_okq (⟨"ReignLaddersModel", "mayLast", "(III)Z"⟩, 34) := ⟨⟨by decide +kernel, by decide +kernel⟩, List.mem_of_getElem? (i := 839) (by decide +kernel), List.mem_of_getElem? (i := 1216) (by decide +kernel), List.mem_of_getElem? (i := 1217) (by decide +kernel)⟩
theorem lw_p59 : lw_okq (⟨"ReignLaddersModel", "holdsTold", "(I)Z"⟩, 34) := ⟨⟨by decide +kernel, by decide +kernel⟩, List.mem_of_getElem? (i := 839) (by decide +kernel), List.mem_of_getElem? (i := 1220) (by decide +kernel), List.mem_of_getElem? (i := 1221) (by decide +kernel)⟩
theorem lw_p60 : lw_okq (⟨"ReignLaddersModel", "howMany", "(I)I"⟩, 34) := ⟨⟨by decide +kernel, by decide +kernel⟩, List.mem_of_getElem? (i := 839) (by decide +kernel), List.mem_of_getElem? (i := 1228) (by decide +kernel), List.mem_of_getElem? (i := 1229) (by decide +kernel)⟩
theorem lw_p61 : lw_okq (⟨"ReignLaddersModel", "mix", "(J)V"⟩, 34) := ⟨⟨by decide +kernel, by decide +kernel⟩, List.mem_of_getElem? (i := 839) (by decide +kernel), List.mem_of_getElem? (i := 1237) (by decide +kernel), List.mem_of_getElem? (i := 1238) (by decide +kernel)⟩
def lw_privs_4 : List (MethodName × Nat) := [(⟨"ReignLaddersModel", "solve", "(IIII)V"⟩, 34), (⟨"ReignLaddersModel", "layChoice", "(II)Z"⟩, 34), (⟨"ReignLaddersModel", "bind", "(IIII)V"⟩, 34), (⟨"ReignLaddersModel", "misreadAhead", "(I)I"⟩, 34), (⟨"ReignLaddersModel", "layTie", "(II)V"⟩, 34), (⟨"ReignLaddersModel", "closeWays", "()Z"⟩, 34), (⟨"ReignLaddersModel", "take", "(I)V"⟩, 34), (⟨"ReignLaddersModel", "floatsOf", "(II)I"⟩, 34), (⟨"ReignLaddersModel", "openNow", "(I)I"⟩, 34), (⟨"ReignLaddersModel", "closesOf", "(III)I"⟩, 34), (⟨"ReignLaddersModel", "mayLast", "(III)Z"⟩, 34), (⟨"ReignLaddersModel", "holdsTold", "(I)Z"⟩, 34), (⟨"ReignLaddersModel", "howMany", "(I)I"⟩, 34), (⟨"ReignLaddersModel", "mix", "(J)V"⟩, 34)]
theorem lw_r4 : ∀ q ∈ lw_privs_4, lw_okq q := List.forall_mem_cons.mpr ⟨lw_p48, List.forall_mem_cons.mpr ⟨lw_p49, List.forall_mem_cons.mpr ⟨lw_p50, List.forall_mem_cons.mpr ⟨lw_p51, List.forall_mem_cons.mpr ⟨lw_p52, List.forall_mem_cons.mpr ⟨lw_p53, List.forall_mem_cons.mpr ⟨lw_p54, List.forall_mem_cons.mpr ⟨lw_p55, List.forall_mem_cons.mpr ⟨lw_p56, List.forall_mem_cons.mpr ⟨lw_p57, List.forall_mem_cons.mpr ⟨lw_p58, List.forall_mem_cons.mpr ⟨lw_p59, List.forall_mem_cons.mpr ⟨lw_p60, List.forall_mem_cons.mpr ⟨lw_p61, fun _ h => absurd h List.not_mem_nil⟩⟩⟩⟩⟩⟩⟩⟩⟩⟩⟩⟩⟩⟩
def lw_privs : List (MethodName × Nat) := lw_privs_1 ++ (lw_privs_2 ++ (lw_privs_3 ++ (lw_privs_4)))
def lw_tbl : List Cond := k2_sels lw_privs ++ tables_1
theorem lw_privs_ok : ∀ q ∈ lw_privs, lw_okq q := by
  show ∀ q ∈ lw_privs_1 ++ (lw_privs_2 ++ (lw_privs_3 ++ (lw_privs_4))), lw_okq q
  exact List.forall_mem_append.mpr ⟨lw_r1, List.forall_mem_append.mpr ⟨lw_r2, List.forall_mem_append.mpr ⟨lw_r3, lw_r4⟩⟩⟩
-- ===== end of PART A; then your names; then what follows =====
def RX0 : String := "ReignLadders$Grid"
def TX0 : u_T := fun k => match k with
  | 0 => ("ReignLadders$Grid", "cells", "[I", true)
  | _ => ("ReignLadders$Grid", "points", "I", false)
def tyX0 : Nat → FieldType := fun k => match k with
  | 0 => .array .int
  | _ => .int
abbrev wsX00 : List Cond := u_ws RX0 TX0 2
theorem nmX0 : ∀ a, a < 2 → ∀ b, b < 2 → a ≠ b → (TX0 a).2.1 ≠ (TX0 b).2.1 := by decide +kernel
theorem tyX0_ok : ∀ k, k < 2 → parseFieldDescriptor (TX0 k).2.2.1 = some (tyX0 k) := by decide +kernel
abbrev cX0_init : ByteArray := prog_2_method_1_code
def yX0_init : MethodName := ⟨RX0, "<init>", "()V"⟩
abbrev cX0_clear : ByteArray := prog_2_method_2_code
def yX0_clear : MethodName := ⟨RX0, "clear", "(I)V"⟩
abbrev cX0_copy : ByteArray := prog_2_method_3_code
def yX0_copy : MethodName := ⟨RX0, "copy", "(LReignLadders$Grid;)V"⟩
abbrev cX0_most : ByteArray := prog_2_method_4_code
def yX0_most : MethodName := ⟨RX0, "most", "(II)I"⟩
abbrev cX0_keep : ByteArray := prog_2_method_5_code
def yX0_keep : MethodName := ⟨RX0, "keep", "(IIII)Z"⟩
abbrev cX0_hold : ByteArray := prog_2_method_6_code
def yX0_hold : MethodName := ⟨RX0, "hold", "(III)Z"⟩
abbrev cX0_allows : ByteArray := prog_2_method_7_code
def yX0_allows : MethodName := ⟨RX0, "allows", "(IIII)Z"⟩
def RX1 : String := "ReignLadders$Ladders"
def TX1 : u_T := fun k => match k with
  | 0 => ("ReignLadders$Ladders", "reigns", "LReignLadders$Reigns;", true)
  | 1 => ("ReignLadders$Ladders", "ties", "LReignLadders$Ties;", true)
  | 2 => ("ReignLadders$Ladders", "wishes", "LReignLadders$Ties;", true)
  | 3 => ("ReignLadders$Ladders", "lists", "LReignLadders$Grid;", true)
  | 4 => ("ReignLadders$Ladders", "tiedLists", "LReignLadders$Grid;", true)
  | 5 => ("ReignLadders$Ladders", "trial", "LReignLadders$Grid;", true)
  | 6 => ("ReignLadders$Ladders", "forkBehind", "[I", true)
  | 7 => ("ReignLadders$Ladders", "forkLeast", "[I", true)
  | 8 => ("ReignLadders$Ladders", "forkMost", "[I", true)
  | 9 => ("ReignLadders$Ladders", "least", "[I", true)
  | 10 => ("ReignLadders$Ladders", "greatest", "[I", true)
  | 11 => ("ReignLadders$Ladders", "keptLeast", "[I", true)
  | 12 => ("ReignLadders$Ladders", "keptGreatest", "[I", true)
  | 13 => ("ReignLadders$Ladders", "edition", "I", false)
  | 14 => ("ReignLadders$Ladders", "forks", "I", false)
  | 15 => ("ReignLadders$Ladders", "firstSky", "I", false)
  | 16 => ("ReignLadders$Ladders", "secondSky", "I", false)
  | _ => ("ReignLadders$Ladders", "found", "Z", false)
def tyX1 : Nat → FieldType := fun k => match k with
  | 0 => .object "ReignLadders$Reigns"
  | 1 => .object "ReignLadders$Ties"
  | 2 => .object "ReignLadders$Ties"
  | 3 => .object "ReignLadders$Grid"
  | 4 => .object "ReignLadders$Grid"
  | 5 => .object "ReignLadders$Grid"
  | 6 => .array .int
  | 7 => .array .int
  | 8 => .array .int
  | 9 => .array .int
  | 10 => .array .int
  | 11 => .array .int
  | 12 => .array .int
  | 13 => .int
  | 14 => .int
  | 15 => .int
  | 16 => .int
  | _ => .boolean
abbrev wsX10 : List Cond := u_ws RX1 TX1 18
theorem nmX1 : ∀ a, a < 18 → ∀ b, b < 18 → a ≠ b → (TX1 a).2.1 ≠ (TX1 b).2.1 := by decide +kernel
theorem tyX1_ok : ∀ k, k < 18 → parseFieldDescriptor (TX1 k).2.2.1 = some (tyX1 k) := by decide +kernel
abbrev cX1_init : ByteArray := prog_3_method_1_code
def yX1_init : MethodName := ⟨RX1, "<init>", "(LReignLadders$Reigns;LReignLadders$Ties;LReignLadders$Ties;)V"⟩
abbrev cX1_layLists : ByteArray := prog_3_method_2_code
def yX1_layLists : MethodName := ⟨RX1, "layLists", "(II)V"⟩
abbrev cX1_layBehind : ByteArray := prog_3_method_3_code
def yX1_layBehind : MethodName := ⟨RX1, "layBehind", "(III)V"⟩
abbrev cX1_find : ByteArray := prog_3_method_4_code
def yX1_find : MethodName := ⟨RX1, "find", "(IIZ)Z"⟩
abbrev cX1_layTies : ByteArray := prog_3_method_5_code
def yX1_layTies : MethodName := ⟨RX1, "layTies", "(I)Z"⟩
abbrev cX1_layTie : ByteArray := prog_3_method_6_code
def yX1_layTie : MethodName := ⟨RX1, "layTie", "(I)Z"⟩
abbrev cX1_layPair : ByteArray := prog_3_method_7_code
def yX1_layPair : MethodName := ⟨RX1, "layPair", "(LReignLadders$Ties;I)Z"⟩
abbrev cX1_takeForks : ByteArray := prog_3_method_8_code
def yX1_takeForks : MethodName := ⟨RX1, "takeForks", "(I)Z"⟩
abbrev cX1_tryYears : ByteArray := prog_3_method_9_code
def yX1_tryYears : MethodName := ⟨RX1, "tryYears", "(Z)V"⟩
abbrev cX1_yearsOf : ByteArray := prog_3_method_10_code
def yX1_yearsOf : MethodName := ⟨RX1, "yearsOf", "(I)I"⟩
abbrev cX1_pointOf : ByteArray := prog_3_method_11_code
def yX1_pointOf : MethodName := ⟨RX1, "pointOf", "(I)I"⟩
abbrev cX1_beginning : ByteArray := prog_3_method_12_code
def yX1_beginning : MethodName := ⟨RX1, "beginning", "(II)I"⟩
abbrev cX1_widen : ByteArray := prog_3_method_13_code
def yX1_widen : MethodName := ⟨RX1, "widen", "(II)V"⟩
abbrev cX1_end : ByteArray := prog_3_method_14_code
def yX1_end : MethodName := ⟨RX1, "end", "(II)I"⟩
abbrev cX1_openness : ByteArray := prog_3_method_15_code
def yX1_openness : MethodName := ⟨RX1, "openness", "()I"⟩
abbrev cX1_keepSpans : ByteArray := prog_3_method_16_code
def yX1_keepSpans : MethodName := ⟨RX1, "keepSpans", "()V"⟩
abbrev cX1_firstUnlikeKept : ByteArray := prog_3_method_17_code
def yX1_firstUnlikeKept : MethodName := ⟨RX1, "firstUnlikeKept", "()I"⟩
def RX2 : String := "ReignLadders$Page"
def TX2 : u_T := fun k => match k with
  | 0 => ("ReignLadders$Page", "letters", "[I", true)
  | 1 => ("ReignLadders$Page", "size", "I", false)
  | 2 => ("ReignLadders$Page", "expected", "I", false)
  | _ => ("ReignLadders$Page", "depth", "I", false)
def tyX2 : Nat → FieldType := fun k => match k with
  | 0 => .array .int
  | 1 => .int
  | 2 => .int
  | _ => .int
abbrev wsX20 : List Cond := u_ws RX2 TX2 4
theorem nmX2 : ∀ a, a < 4 → ∀ b, b < 4 → a ≠ b → (TX2 a).2.1 ≠ (TX2 b).2.1 := by decide +kernel
theorem tyX2_ok : ∀ k, k < 4 → parseFieldDescriptor (TX2 k).2.2.1 = some (tyX2 k) := by decide +kernel
abbrev cX2_init : ByteArray := prog_4_method_1_code
def yX2_init : MethodName := ⟨RX2, "<init>", "()V"⟩
abbrev cX2_size : ByteArray := prog_4_method_2_code
def yX2_size : MethodName := ⟨RX2, "size", "()I"⟩
abbrev cX2_letterAt : ByteArray := prog_4_method_3_code
def yX2_letterAt : MethodName := ⟨RX2, "letterAt", "(I)I"⟩
abbrev cX2_byteOf : ByteArray := prog_4_method_4_code
def yX2_byteOf : MethodName := ⟨RX2, "byteOf", "(JI)I"⟩
abbrev cX2_lettersIn : ByteArray := prog_4_method_5_code
def yX2_lettersIn : MethodName := ⟨RX2, "lettersIn", "(J)I"⟩
abbrev cX2_write : ByteArray := prog_4_method_6_code
def yX2_write : MethodName := ⟨RX2, "write", "(JI)I"⟩
abbrev cX2_wipe : ByteArray := prog_4_method_7_code
def yX2_wipe : MethodName := ⟨RX2, "wipe", "()I"⟩
abbrev cX2_firstFault : ByteArray := prog_4_method_8_code
def yX2_firstFault : MethodName := ⟨RX2, "firstFault", "()I"⟩
abbrev cX2_isText : ByteArray := prog_4_method_9_code
def yX2_isText : MethodName := ⟨RX2, "isText", "()Z"⟩
abbrev cX2_after : ByteArray := prog_4_method_10_code
def yX2_after : MethodName := ⟨RX2, "after", "(I)I"⟩
abbrev cX2_afterFactorBegins : ByteArray := prog_4_method_11_code
def yX2_afterFactorBegins : MethodName := ⟨RX2, "afterFactorBegins", "(I)I"⟩
abbrev cX2_afterFactorEnds : ByteArray := prog_4_method_12_code
def yX2_afterFactorEnds : MethodName := ⟨RX2, "afterFactorEnds", "(I)I"⟩
abbrev cX2_isDigit : ByteArray := prog_4_method_13_code
def yX2_isDigit : MethodName := ⟨RX2, "isDigit", "(I)Z"⟩
abbrev cX2_digestOn : ByteArray := prog_4_method_14_code
def yX2_digestOn : MethodName := ⟨RX2, "digestOn", "(J)J"⟩
def RX3 : String := "ReignLadders$Reigns"
def TX3 : u_T := fun k => match k with
  | 0 => ("ReignLadders$Reigns", "facts", "[I", true)
  | 1 => ("ReignLadders$Reigns", "told", "[I", true)
  | 2 => ("ReignLadders$Reigns", "lastOfLand", "[I", true)
  | 3 => ("ReignLadders$Reigns", "size", "I", false)
  | _ => ("ReignLadders$Reigns", "misread", "I", false)
def tyX3 : Nat → FieldType := fun k => match k with
  | 0 => .array .int
  | 1 => .array .int
  | 2 => .array .int
  | 3 => .int
  | _ => .int
abbrev wsX30 : List Cond := u_ws RX3 TX3 5
theorem nmX3 : ∀ a, a < 5 → ∀ b, b < 5 → a ≠ b → (TX3 a).2.1 ≠ (TX3 b).2.1 := by decide +kernel
theorem tyX3_ok : ∀ k, k < 5 → parseFieldDescriptor (TX3 k).2.2.1 = some (tyX3 k) := by decide +kernel
abbrev cX3_init : ByteArray := prog_5_method_1_code
def yX3_init : MethodName := ⟨RX3, "<init>", "()V"⟩
abbrev cX3_size : ByteArray := prog_5_method_2_code
def yX3_size : MethodName := ⟨RX3, "size", "()I"⟩
abbrev cX3_has : ByteArray := prog_5_method_3_code
def yX3_has : MethodName := ⟨RX3, "has", "(I)Z"⟩
abbrev cX3_fact : ByteArray := prog_5_method_4_code
def yX3_fact : MethodName := ⟨RX3, "fact", "(II)I"⟩
abbrev cX3_lastOf : ByteArray := prog_5_method_5_code
def yX3_lastOf : MethodName := ⟨RX3, "lastOf", "(I)I"⟩
abbrev cX3_isOf : ByteArray := prog_5_method_6_code
def yX3_isOf : MethodName := ⟨RX3, "isOf", "(II)Z"⟩
abbrev cX3_hasRoomFor : ByteArray := prog_5_method_7_code
def yX3_hasRoomFor : MethodName := ⟨RX3, "hasRoomFor", "(I)Z"⟩
abbrev cX3_add : ByteArray := prog_5_method_8_code
def yX3_add : MethodName := ⟨RX3, "add", "(IIIII)I"⟩
abbrev cX3_renumber : ByteArray := prog_5_method_9_code
def yX3_renumber : MethodName := ⟨RX3, "renumber", "(II)I"⟩
abbrev cX3_retell : ByteArray := prog_5_method_10_code
def yX3_retell : MethodName := ⟨RX3, "retell", "(II)I"⟩
abbrev cX3_toldYear : ByteArray := prog_5_method_11_code
def yX3_toldYear : MethodName := ⟨RX3, "toldYear", "(I)I"⟩
abbrev cX3_isKnown : ByteArray := prog_5_method_12_code
def yX3_isKnown : MethodName := ⟨RX3, "isKnown", "(II)Z"⟩
abbrev cX3_knownBits : ByteArray := prog_5_method_13_code
def yX3_knownBits : MethodName := ⟨RX3, "knownBits", "(I)I"⟩
abbrev cX3_overlap : ByteArray := prog_5_method_14_code
def yX3_overlap : MethodName := ⟨RX3, "overlap", "(I)I"⟩
abbrev cX3_counted : ByteArray := prog_5_method_15_code
def yX3_counted : MethodName := ⟨RX3, "counted", "(II)I"⟩
abbrev cX3_otherReading : ByteArray := prog_5_method_16_code
def yX3_otherReading : MethodName := ⟨RX3, "otherReading", "(II)I"⟩
abbrev cX3_shortest : ByteArray := prog_5_method_17_code
def yX3_shortest : MethodName := ⟨RX3, "shortest", "(II)I"⟩
abbrev cX3_longest : ByteArray := prog_5_method_18_code
def yX3_longest : MethodName := ⟨RX3, "longest", "(II)I"⟩
abbrev cX3_isMisread : ByteArray := prog_5_method_19_code
def yX3_isMisread : MethodName := ⟨RX3, "isMisread", "(I)Z"⟩
abbrev cX3_lengths : ByteArray := prog_5_method_20_code
def yX3_lengths : MethodName := ⟨RX3, "lengths", "(II)I"⟩
abbrev cX3_isToldBehind : ByteArray := prog_5_method_21_code
def yX3_isToldBehind : MethodName := ⟨RX3, "isToldBehind", "(III)Z"⟩
abbrev cX3_spreadInLands : ByteArray := prog_5_method_22_code
def yX3_spreadInLands : MethodName := ⟨RX3, "spreadInLands", "(II)I"⟩
abbrev cX3_digestOn : ByteArray := prog_5_method_23_code
def yX3_digestOn : MethodName := ⟨RX3, "digestOn", "(J)J"⟩
def RX4 : String := "ReignLadders$School"
def TX4 : u_T := fun k => match k with
  | 0 => ("ReignLadders$School", "letters", "[I", true)
  | 1 => ("ReignLadders$School", "lengths", "[I", true)
  | _ => ("ReignLadders$School", "size", "I", false)
def tyX4 : Nat → FieldType := fun k => match k with
  | 0 => .array .int
  | 1 => .array .int
  | _ => .int
abbrev wsX40 : List Cond := u_ws RX4 TX4 3
theorem nmX4 : ∀ a, a < 3 → ∀ b, b < 3 → a ≠ b → (TX4 a).2.1 ≠ (TX4 b).2.1 := by decide +kernel
theorem tyX4_ok : ∀ k, k < 3 → parseFieldDescriptor (TX4 k).2.2.1 = some (tyX4 k) := by decide +kernel
abbrev cX4_init : ByteArray := prog_6_method_1_code
def yX4_init : MethodName := ⟨RX4, "<init>", "()V"⟩
abbrev cX4_size : ByteArray := prog_6_method_2_code
def yX4_size : MethodName := ⟨RX4, "size", "()I"⟩
abbrev cX4_isFull : ByteArray := prog_6_method_3_code
def yX4_isFull : MethodName := ⟨RX4, "isFull", "()Z"⟩
abbrev cX4_learn : ByteArray := prog_6_method_4_code
def yX4_learn : MethodName := ⟨RX4, "learn", "(LReignLadders$Page;)I"⟩
abbrev cX4_unlearn : ByteArray := prog_6_method_5_code
def yX4_unlearn : MethodName := ⟨RX4, "unlearn", "()I"⟩
abbrev cX4_says : ByteArray := prog_6_method_6_code
def yX4_says : MethodName := ⟨RX4, "says", "(ILReignLadders$Subject;I)I"⟩
def RX5 : String := "ReignLadders$Subject"
def TX5 : u_T := fun k => match k with
  | 0 => ("ReignLadders$Subject", "land", "I", false)
  | 1 => ("ReignLadders$Subject", "kind", "I", false)
  | 2 => ("ReignLadders$Subject", "number", "I", false)
  | 3 => ("ReignLadders$Subject", "own", "I", false)
  | 4 => ("ReignLadders$Subject", "anyTerm", "J", false)
  | 5 => ("ReignLadders$Subject", "allFactors", "J", false)
  | _ => ("ReignLadders$Subject", "flipped", "J", false)
def tyX5 : Nat → FieldType := fun k => match k with
  | 0 => .int
  | 1 => .int
  | 2 => .int
  | 3 => .int
  | 4 => .long
  | 5 => .long
  | _ => .long
abbrev wsX50 : List Cond := u_ws RX5 TX5 7
theorem nmX5 : ∀ a, a < 7 → ∀ b, b < 7 → a ≠ b → (TX5 a).2.1 ≠ (TX5 b).2.1 := by decide +kernel
theorem tyX5_ok : ∀ k, k < 7 → parseFieldDescriptor (TX5 k).2.2.1 = some (tyX5 k) := by decide +kernel
abbrev cX5_init : ByteArray := prog_7_method_1_code
def yX5_init : MethodName := ⟨RX5, "<init>", "()V"⟩
abbrev cX5_set : ByteArray := prog_7_method_2_code
def yX5_set : MethodName := ⟨RX5, "set", "(IIII)V"⟩
abbrev cX5_meets : ByteArray := prog_7_method_3_code
def yX5_meets : MethodName := ⟨RX5, "meets", "([III)Z"⟩
abbrev cX5_begin : ByteArray := prog_7_method_4_code
def yX5_begin : MethodName := ⟨RX5, "begin", "()V"⟩
abbrev cX5_end : ByteArray := prog_7_method_5_code
def yX5_end : MethodName := ⟨RX5, "end", "()J"⟩
abbrev cX5_take : ByteArray := prog_7_method_6_code
def yX5_take : MethodName := ⟨RX5, "take", "(J)V"⟩
abbrev cX5_valueOf : ByteArray := prog_7_method_7_code
def yX5_valueOf : MethodName := ⟨RX5, "valueOf", "(I)I"⟩
abbrev cX5_numberOf : ByteArray := prog_7_method_8_code
def yX5_numberOf : MethodName := ⟨RX5, "numberOf", "(II)I"⟩
abbrev cX5_compared : ByteArray := prog_7_method_9_code
def yX5_compared : MethodName := ⟨RX5, "compared", "(III)J"⟩
def RX6 : String := "ReignLadders$Ties"
def TX6 : u_T := fun k => match k with
  | 0 => ("ReignLadders$Ties", "facts", "[I", true)
  | 1 => ("ReignLadders$Ties", "years", "[I", true)
  | 2 => ("ReignLadders$Ties", "most", "I", true)
  | 3 => ("ReignLadders$Ties", "size", "I", false)
  | _ => ("ReignLadders$Ties", "skies", "I", false)
def tyX6 : Nat → FieldType := fun k => match k with
  | 0 => .array .int
  | 1 => .array .int
  | 2 => .int
  | 3 => .int
  | _ => .int
abbrev wsX60 : List Cond := u_ws RX6 TX6 5
theorem nmX6 : ∀ a, a < 5 → ∀ b, b < 5 → a ≠ b → (TX6 a).2.1 ≠ (TX6 b).2.1 := by decide +kernel
theorem tyX6_ok : ∀ k, k < 5 → parseFieldDescriptor (TX6 k).2.2.1 = some (tyX6 k) := by decide +kernel
abbrev cX6_init : ByteArray := prog_8_method_1_code
def yX6_init : MethodName := ⟨RX6, "<init>", "(I)V"⟩
abbrev cX6_size : ByteArray := prog_8_method_2_code
def yX6_size : MethodName := ⟨RX6, "size", "()I"⟩
abbrev cX6_has : ByteArray := prog_8_method_3_code
def yX6_has : MethodName := ⟨RX6, "has", "(I)Z"⟩
abbrev cX6_isFull : ByteArray := prog_8_method_4_code
def yX6_isFull : MethodName := ⟨RX6, "isFull", "()Z"⟩
abbrev cX6_areSkiesFull : ByteArray := prog_8_method_5_code
def yX6_areSkiesFull : MethodName := ⟨RX6, "areSkiesFull", "()Z"⟩
abbrev cX6_fact : ByteArray := prog_8_method_6_code
def yX6_fact : MethodName := ⟨RX6, "fact", "(II)I"⟩
abbrev cX6_year : ByteArray := prog_8_method_7_code
def yX6_year : MethodName := ⟨RX6, "year", "(II)I"⟩
abbrev cX6_add : ByteArray := prog_8_method_8_code
def yX6_add : MethodName := ⟨RX6, "add", "(IIIIIII)I"⟩
abbrev cX6_addSky : ByteArray := prog_8_method_9_code
def yX6_addSky : MethodName := ⟨RX6, "addSky", "(IIIIII)I"⟩
abbrev cX6_addRing : ByteArray := prog_8_method_10_code
def yX6_addRing : MethodName := ⟨RX6, "addRing", "(IIII)I"⟩
abbrev cX6_drop : ByteArray := prog_8_method_11_code
def yX6_drop : MethodName := ⟨RX6, "drop", "()I"⟩
abbrev cX6_shift : ByteArray := prog_8_method_12_code
def yX6_shift : MethodName := ⟨RX6, "shift", "(I)I"⟩
abbrev cX6_beginning : ByteArray := prog_8_method_13_code
def yX6_beginning : MethodName := ⟨RX6, "beginning", "(II)I"⟩
abbrev cX6_isKnown : ByteArray := prog_8_method_14_code
def yX6_isKnown : MethodName := ⟨RX6, "isKnown", "(IILReignLadders$Reigns;)Z"⟩
abbrev cX6_holdsAsTold : ByteArray := prog_8_method_15_code
def yX6_holdsAsTold : MethodName := ⟨RX6, "holdsAsTold", "(ILReignLadders$Reigns;)Z"⟩
abbrev cX6_spread : ByteArray := prog_8_method_16_code
def yX6_spread : MethodName := ⟨RX6, "spread", "(II)I"⟩
abbrev cX6_digestOn : ByteArray := prog_8_method_17_code
def yX6_digestOn : MethodName := ⟨RX6, "digestOn", "(J)J"⟩
abbrev cX6_digestPairsOn : ByteArray := prog_8_method_18_code
def yX6_digestPairsOn : MethodName := ⟨RX6, "digestPairsOn", "(J)J"⟩
def RX7 : String := "ReignLadders"
def TX7 : u_T := fun k => match k with
  | 0 => ("ReignLadders", "reigns", "LReignLadders$Reigns;", true)
  | 1 => ("ReignLadders", "ties", "LReignLadders$Ties;", true)
  | 2 => ("ReignLadders", "wishes", "LReignLadders$Ties;", true)
  | 3 => ("ReignLadders", "firstSchool", "LReignLadders$School;", true)
  | 4 => ("ReignLadders", "secondSchool", "LReignLadders$School;", true)
  | 5 => ("ReignLadders", "subject", "LReignLadders$Subject;", true)
  | 6 => ("ReignLadders", "page", "LReignLadders$Page;", true)
  | 7 => ("ReignLadders", "ladders", "LReignLadders$Ladders;", true)
  | _ => ("ReignLadders", "doubts", "I", false)
def tyX7 : Nat → FieldType := fun k => match k with
  | 0 => .object "ReignLadders$Reigns"
  | 1 => .object "ReignLadders$Ties"
  | 2 => .object "ReignLadders$Ties"
  | 3 => .object "ReignLadders$School"
  | 4 => .object "ReignLadders$School"
  | 5 => .object "ReignLadders$Subject"
  | 6 => .object "ReignLadders$Page"
  | 7 => .object "ReignLadders$Ladders"
  | _ => .int
abbrev wsX70 : List Cond := u_ws RX7 TX7 9
theorem nmX7 : ∀ a, a < 9 → ∀ b, b < 9 → a ≠ b → (TX7 a).2.1 ≠ (TX7 b).2.1 := by decide +kernel
theorem tyX7_ok : ∀ k, k < 9 → parseFieldDescriptor (TX7 k).2.2.1 = some (tyX7 k) := by decide +kernel
abbrev cX7_init : ByteArray := prog_1_method_1_code
def yX7_init : MethodName := ⟨RX7, "<init>", "()V"⟩
abbrev cX7_reign : ByteArray := prog_1_method_2_code
def yX7_reign : MethodName := ⟨RX7, "reign", "(IIIII)I"⟩
abbrev cX7_about : ByteArray := prog_1_method_3_code
def yX7_about : MethodName := ⟨RX7, "about", "(II)I"⟩
abbrev cX7_as : ByteArray := prog_1_method_4_code
def yX7_as : MethodName := ⟨RX7, "as", "(II)I"⟩
abbrev cX7_lasts : ByteArray := prog_1_method_5_code
def yX7_lasts : MethodName := ⟨RX7, "lasts", "(III)I"⟩
abbrev cX7_number : ByteArray := prog_1_method_6_code
def yX7_number : MethodName := ⟨RX7, "number", "(II)I"⟩
abbrev cX7_tie : ByteArray := prog_1_method_7_code
def yX7_tie : MethodName := ⟨RX7, "tie", "(IIIIII)I"⟩
abbrev cX7_sky : ByteArray := prog_1_method_8_code
def yX7_sky : MethodName := ⟨RX7, "sky", "(IIIIII)I"⟩
abbrev cX7_ring : ByteArray := prog_1_method_9_code
def yX7_ring : MethodName := ⟨RX7, "ring", "(IIII)I"⟩
abbrev cX7_letter : ByteArray := prog_1_method_10_code
def yX7_letter : MethodName := ⟨RX7, "letter", "(IIIII)I"⟩
abbrev cX7_tied : ByteArray := prog_1_method_11_code
def yX7_tied : MethodName := ⟨RX7, "tied", "(II)I"⟩
abbrev cX7_undo : ByteArray := prog_1_method_12_code
def yX7_undo : MethodName := ⟨RX7, "undo", "()I"⟩
abbrev cX7_letters : ByteArray := prog_1_method_13_code
def yX7_letters : MethodName := ⟨RX7, "letters", "(J)I"⟩
abbrev cX7_blank : ByteArray := prog_1_method_14_code
def yX7_blank : MethodName := ⟨RX7, "blank", "()I"⟩
abbrev cX7_fault : ByteArray := prog_1_method_15_code
def yX7_fault : MethodName := ⟨RX7, "fault", "()I"⟩
abbrev cX7_text : ByteArray := prog_1_method_16_code
def yX7_text : MethodName := ⟨RX7, "text", "(I)I"⟩
abbrev cX7_strike : ByteArray := prog_1_method_17_code
def yX7_strike : MethodName := ⟨RX7, "strike", "(I)I"⟩
abbrev cX7_counts : ByteArray := prog_1_method_18_code
def yX7_counts : MethodName := ⟨RX7, "counts", "(II)I"⟩
abbrev cX7_believes : ByteArray := prog_1_method_19_code
def yX7_believes : MethodName := ⟨RX7, "believes", "(II)I"⟩
abbrev cX7_can : ByteArray := prog_1_method_20_code
def yX7_can : MethodName := ⟨RX7, "can", "(II)I"⟩
abbrev cX7_span : ByteArray := prog_1_method_21_code
def yX7_span : MethodName := ⟨RX7, "span", "(IIII)I"⟩
abbrev cX7_held : ByteArray := prog_1_method_22_code
def yX7_held : MethodName := ⟨RX7, "held", "(IIII)I"⟩
abbrev cX7_doubt : ByteArray := prog_1_method_23_code
def yX7_doubt : MethodName := ⟨RX7, "doubt", "(III)I"⟩
abbrev cX7_floats : ByteArray := prog_1_method_24_code
def yX7_floats : MethodName := ⟨RX7, "floats", "(II)I"⟩
abbrev cX7_open : ByteArray := prog_1_method_25_code
def yX7_open : MethodName := ⟨RX7, "open", "(II)I"⟩
abbrev cX7_part : ByteArray := prog_1_method_26_code
def yX7_part : MethodName := ⟨RX7, "part", "()I"⟩
abbrev cX7_wish : ByteArray := prog_1_method_27_code
def yX7_wish : MethodName := ⟨RX7, "wish", "(IIIII)I"⟩
abbrev cX7_closes : ByteArray := prog_1_method_28_code
def yX7_closes : MethodName := ⟨RX7, "closes", "(III)I"⟩
abbrev cX7_best : ByteArray := prog_1_method_29_code
def yX7_best : MethodName := ⟨RX7, "best", "(II)I"⟩
abbrev cX7_tell : ByteArray := prog_1_method_30_code
def yX7_tell : MethodName := ⟨RX7, "tell", "(II)I"⟩
abbrev cX7_judge : ByteArray := prog_1_method_31_code
def yX7_judge : MethodName := ⟨RX7, "judge", "(I)I"⟩
abbrev cX7_count : ByteArray := prog_1_method_32_code
def yX7_count : MethodName := ⟨RX7, "count", "(I)I"⟩
abbrev cX7_digest : ByteArray := prog_1_method_33_code
def yX7_digest : MethodName := ⟨RX7, "digest", "()J"⟩
abbrev cX7_sayingsDigest : ByteArray := prog_1_method_34_code
def yX7_sayingsDigest : MethodName := ⟨RX7, "sayingsDigest", "(JI)J"⟩
abbrev cX7_within : ByteArray := prog_1_method_35_code
def yX7_within : MethodName := ⟨RX7, "within", "(III)Z"⟩
abbrev cX7_isYear : ByteArray := prog_1_method_36_code
def yX7_isYear : MethodName := ⟨RX7, "isYear", "(I)Z"⟩
abbrev cX7_arePlaces : ByteArray := prog_1_method_37_code
def yX7_arePlaces : MethodName := ⟨RX7, "arePlaces", "(II)Z"⟩
abbrev cX7_arePair : ByteArray := prog_1_method_38_code
def yX7_arePair : MethodName := ⟨RX7, "arePair", "(II)Z"⟩
abbrev cX7_isSchool : ByteArray := prog_1_method_39_code
def yX7_isSchool : MethodName := ⟨RX7, "isSchool", "(I)Z"⟩
abbrev cX7_refusal : ByteArray := prog_1_method_40_code
def yX7_refusal : MethodName := ⟨RX7, "refusal", "(II)I"⟩
abbrev cX7_schoolOf : ByteArray := prog_1_method_41_code
def yX7_schoolOf : MethodName := ⟨RX7, "schoolOf", "(I)LReignLadders$School;"⟩
abbrev cX7_countFor : ByteArray := prog_1_method_42_code
def yX7_countFor : MethodName := ⟨RX7, "countFor", "(II)I"⟩
abbrev cX7_beliefFor : ByteArray := prog_1_method_43_code
def yX7_beliefFor : MethodName := ⟨RX7, "beliefFor", "(II)I"⟩
abbrev cX7_believedBy : ByteArray := prog_1_method_44_code
def yX7_believedBy : MethodName := ⟨RX7, "believedBy", "(II)I"⟩
abbrev cX7_lay : ByteArray := prog_1_method_45_code
def yX7_lay : MethodName := ⟨RX7, "lay", "(II)I"⟩
abbrev cX7_holders : ByteArray := prog_1_method_46_code
def yX7_holders : MethodName := ⟨RX7, "holders", "(III)I"⟩
abbrev cX7_doubted : ByteArray := prog_1_method_47_code
def yX7_doubted : MethodName := ⟨RX7, "doubted", "(II)I"⟩
abbrev cX7_afloat : ByteArray := prog_1_method_48_code
def yX7_afloat : MethodName := ⟨RX7, "afloat", "(II)I"⟩
abbrev cX7_gain : ByteArray := prog_1_method_49_code
def yX7_gain : MethodName := ⟨RX7, "gain", "(IIII)I"⟩
abbrev cX7_at : ByteArray := prog_1_method_50_code
def yX7_at : MethodName := ⟨RX7, "at", "([II)I"⟩
abbrev cX7_put : ByteArray := prog_1_method_51_code
def yX7_put : MethodName := ⟨RX7, "put", "([III)V"⟩
def RX8 : String := "ReignLaddersModel"
def TX8 : u_T := fun k => match k with
  | 0 => ("ReignLaddersModel", "reigns", "I", false)
  | 1 => ("ReignLaddersModel", "landOf", "[I", true)
  | 2 => ("ReignLaddersModel", "kindOf", "[I", true)
  | 3 => ("ReignLaddersModel", "numberOf", "[I", true)
  | 4 => ("ReignLaddersModel", "otherOf", "[I", true)
  | 5 => ("ReignLaddersModel", "editionOf", "[I", true)
  | 6 => ("ReignLaddersModel", "aheadOf", "[I", true)
  | 7 => ("ReignLaddersModel", "toldYear", "[I", true)
  | 8 => ("ReignLaddersModel", "ties", "I", false)
  | 9 => ("ReignLaddersModel", "tieOf", "[I", true)
  | 10 => ("ReignLaddersModel", "yearOf", "[I", true)
  | 11 => ("ReignLaddersModel", "pageLength", "I", false)
  | 12 => ("ReignLaddersModel", "page", "[B", true)
  | 13 => ("ReignLaddersModel", "texts", "[I", true)
  | 14 => ("ReignLaddersModel", "textOf", "[B", true)
  | 15 => ("ReignLaddersModel", "textSize", "[I", true)
  | 16 => ("ReignLaddersModel", "wishes", "I", false)
  | 17 => ("ReignLaddersModel", "wishOf", "[I", true)
  | 18 => ("ReignLaddersModel", "doubtDone", "I", false)
  | 19 => ("ReignLaddersModel", "faultAt", "I", false)
  | 20 => ("ReignLaddersModel", "isWhole", "Z", false)
  | 21 => ("ReignLaddersModel", "of", "[I", true)
  | 22 => ("ReignLaddersModel", "anyTerm", "[Z", true)
  | 23 => ("ReignLaddersModel", "allFactors", "[Z", true)
  | 24 => ("ReignLaddersModel", "isDenied", "[Z", true)
  | 25 => ("ReignLaddersModel", "deep", "I", false)
  | 26 => ("ReignLaddersModel", "most", "[I", true)
  | 27 => ("ReignLaddersModel", "counted", "[I", true)
  | 28 => ("ReignLaddersModel", "low", "[I", true)
  | 29 => ("ReignLaddersModel", "high", "[I", true)
  | 30 => ("ReignLaddersModel", "isFound", "Z", false)
  | 31 => ("ReignLaddersModel", "firstLow", "[I", true)
  | 32 => ("ReignLaddersModel", "firstHigh", "[I", true)
  | _ => ("ReignLaddersModel", "h", "J", false)
def tyX8 : Nat → FieldType := fun k => match k with
  | 0 => .int
  | 1 => .array .int
  | 2 => .array .int
  | 3 => .array .int
  | 4 => .array .int
  | 5 => .array .int
  | 6 => .array .int
  | 7 => .array .int
  | 8 => .int
  | 9 => .array .int
  | 10 => .array .int
  | 11 => .int
  | 12 => .array .byte
  | 13 => .array .int
  | 14 => .array .byte
  | 15 => .array .int
  | 16 => .int
  | 17 => .array .int
  | 18 => .int
  | 19 => .int
  | 20 => .boolean
  | 21 => .array .int
  | 22 => .array .boolean
  | 23 => .array .boolean
  | 24 => .array .boolean
  | 25 => .int
  | 26 => .array .int
  | 27 => .array .int
  | 28 => .array .int
  | 29 => .array .int
  | 30 => .boolean
  | 31 => .array .int
  | 32 => .array .int
  | _ => .long
abbrev wsX80 : List Cond := u_ws RX8 TX8 34
theorem nmX8 : ∀ a, a < 34 → ∀ b, b < 34 → a ≠ b → (TX8 a).2.1 ≠ (TX8 b).2.1 := by decide +kernel
theorem tyX8_ok : ∀ k, k < 34 → parseFieldDescriptor (TX8 k).2.2.1 = some (tyX8 k) := by decide +kernel
abbrev cX8_init : ByteArray := prog_10_method_1_code
def yX8_init : MethodName := ⟨RX8, "<init>", "()V"⟩
abbrev cX8_lies : ByteArray := prog_10_method_3_code
def yX8_lies : MethodName := ⟨RX8, "lies", "(III)Z"⟩
abbrev cX8_isReign : ByteArray := prog_10_method_4_code
def yX8_isReign : MethodName := ⟨RX8, "isReign", "(I)Z"⟩
abbrev cX8_isEdition : ByteArray := prog_10_method_5_code
def yX8_isEdition : MethodName := ⟨RX8, "isEdition", "(I)Z"⟩
abbrev cX8_isYear : ByteArray := prog_10_method_6_code
def yX8_isYear : MethodName := ⟨RX8, "isYear", "(I)Z"⟩
abbrev cX8_lastOf : ByteArray := prog_10_method_7_code
def yX8_lastOf : MethodName := ⟨RX8, "lastOf", "(I)I"⟩
abbrev cX8_isMisread : ByteArray := prog_10_method_8_code
def yX8_isMisread : MethodName := ⟨RX8, "isMisread", "(I)Z"⟩
abbrev cX8_reign : ByteArray := prog_10_method_9_code
def yX8_reign : MethodName := ⟨RX8, "reign", "(IIIII)I"⟩
abbrev cX8_aboutOf : ByteArray := prog_10_method_10_code
def yX8_aboutOf : MethodName := ⟨RX8, "aboutOf", "(II)I"⟩
abbrev cX8_about : ByteArray := prog_10_method_11_code
def yX8_about : MethodName := ⟨RX8, "about", "(II)I"⟩
abbrev cX8_as : ByteArray := prog_10_method_12_code
def yX8_as : MethodName := ⟨RX8, "as", "(II)I"⟩
abbrev cX8_otherLength : ByteArray := prog_10_method_13_code
def yX8_otherLength : MethodName := ⟨RX8, "otherLength", "(II)I"⟩
abbrev cX8_leastOf : ByteArray := prog_10_method_14_code
def yX8_leastOf : MethodName := ⟨RX8, "leastOf", "(II)I"⟩
abbrev cX8_mostOf : ByteArray := prog_10_method_15_code
def yX8_mostOf : MethodName := ⟨RX8, "mostOf", "(II)I"⟩
abbrev cX8_lengthsOf : ByteArray := prog_10_method_16_code
def yX8_lengthsOf : MethodName := ⟨RX8, "lengthsOf", "(II)I"⟩
abbrev cX8_lasts : ByteArray := prog_10_method_17_code
def yX8_lasts : MethodName := ⟨RX8, "lasts", "(III)I"⟩
abbrev cX8_number : ByteArray := prog_10_method_18_code
def yX8_number : MethodName := ⟨RX8, "number", "(II)I"⟩
abbrev cX8_come : ByteArray := prog_10_method_19_code
def yX8_come : MethodName := ⟨RX8, "come", "(IIIIIII)I"⟩
abbrev cX8_isXth : ByteArray := prog_10_method_20_code
def yX8_isXth : MethodName := ⟨RX8, "isXth", "(I)Z"⟩
abbrev cX8_tie : ByteArray := prog_10_method_21_code
def yX8_tie : MethodName := ⟨RX8, "tie", "(IIIIII)I"⟩
abbrev cX8_sky : ByteArray := prog_10_method_22_code
def yX8_sky : MethodName := ⟨RX8, "sky", "(IIIIII)I"⟩
abbrev cX8_ring : ByteArray := prog_10_method_23_code
def yX8_ring : MethodName := ⟨RX8, "ring", "(IIII)I"⟩
abbrev cX8_letter : ByteArray := prog_10_method_24_code
def yX8_letter : MethodName := ⟨RX8, "letter", "(IIIII)I"⟩
abbrev cX8_isTie : ByteArray := prog_10_method_25_code
def yX8_isTie : MethodName := ⟨RX8, "isTie", "(I)Z"⟩
abbrev cX8_tied : ByteArray := prog_10_method_26_code
def yX8_tied : MethodName := ⟨RX8, "tied", "(II)I"⟩
abbrev cX8_undo : ByteArray := prog_10_method_27_code
def yX8_undo : MethodName := ⟨RX8, "undo", "()I"⟩
abbrev cX8_letters : ByteArray := prog_10_method_28_code
def yX8_letters : MethodName := ⟨RX8, "letters", "(J)I"⟩
abbrev cX8_blank : ByteArray := prog_10_method_29_code
def yX8_blank : MethodName := ⟨RX8, "blank", "()I"⟩
abbrev cX8_isName : ByteArray := prog_10_method_30_code
def yX8_isName : MethodName := ⟨RX8, "isName", "(I)Z"⟩
abbrev cX8_next : ByteArray := prog_10_method_31_code
def yX8_next : MethodName := ⟨RX8, "next", "(III)I"⟩
abbrev cX8_readText : ByteArray := prog_10_method_32_code
def yX8_readText : MethodName := ⟨RX8, "readText", "()V"⟩
abbrev cX8_fault : ByteArray := prog_10_method_33_code
def yX8_fault : MethodName := ⟨RX8, "fault", "()I"⟩
abbrev cX8_isSchool : ByteArray := prog_10_method_34_code
def yX8_isSchool : MethodName := ⟨RX8, "isSchool", "(I)Z"⟩
abbrev cX8_text : ByteArray := prog_10_method_35_code
def yX8_text : MethodName := ⟨RX8, "text", "(I)I"⟩
abbrev cX8_strike : ByteArray := prog_10_method_36_code
def yX8_strike : MethodName := ⟨RX8, "strike", "(I)I"⟩
abbrev cX8_openGroup : ByteArray := prog_10_method_37_code
def yX8_openGroup : MethodName := ⟨RX8, "openGroup", "()V"⟩
abbrev cX8_factor : ByteArray := prog_10_method_38_code
def yX8_factor : MethodName := ⟨RX8, "factor", "(Z)V"⟩
abbrev cX8_placeOf : ByteArray := prog_10_method_39_code
def yX8_placeOf : MethodName := ⟨RX8, "placeOf", "(I)I"⟩
abbrev cX8_holds : ByteArray := prog_10_method_40_code
def yX8_holds : MethodName := ⟨RX8, "holds", "(I)Z"⟩
abbrev cX8_saysOf : ByteArray := prog_10_method_41_code
def yX8_saysOf : MethodName := ⟨RX8, "saysOf", "(III)I"⟩
abbrev cX8_countsOf : ByteArray := prog_10_method_42_code
def yX8_countsOf : MethodName := ⟨RX8, "countsOf", "(II)I"⟩
abbrev cX8_believesOf : ByteArray := prog_10_method_43_code
def yX8_believesOf : MethodName := ⟨RX8, "believesOf", "(II)I"⟩
abbrev cX8_counts : ByteArray := prog_10_method_44_code
def yX8_counts : MethodName := ⟨RX8, "counts", "(II)I"⟩
abbrev cX8_believes : ByteArray := prog_10_method_45_code
def yX8_believes : MethodName := ⟨RX8, "believes", "(II)I"⟩
abbrev cX8_isKnown : ByteArray := prog_10_method_46_code
def yX8_isKnown : MethodName := ⟨RX8, "isKnown", "(II)Z"⟩
abbrev cX8_tiesOf : ByteArray := prog_10_method_47_code
def yX8_tiesOf : MethodName := ⟨RX8, "tiesOf", "(II)I"⟩
abbrev cX8_bind : ByteArray := prog_10_method_48_code
def yX8_bind : MethodName := ⟨RX8, "bind", "(IIII)V"⟩
abbrev cX8_closeWays : ByteArray := prog_10_method_49_code
def yX8_closeWays : MethodName := ⟨RX8, "closeWays", "()Z"⟩
abbrev cX8_layChoice : ByteArray := prog_10_method_50_code
def yX8_layChoice : MethodName := ⟨RX8, "layChoice", "(II)Z"⟩
abbrev cX8_misreadAhead : ByteArray := prog_10_method_51_code
def yX8_misreadAhead : MethodName := ⟨RX8, "misreadAhead", "(I)I"⟩
abbrev cX8_layTie : ByteArray := prog_10_method_52_code
def yX8_layTie : MethodName := ⟨RX8, "layTie", "(II)V"⟩
abbrev cX8_solve : ByteArray := prog_10_method_53_code
def yX8_solve : MethodName := ⟨RX8, "solve", "(IIII)V"⟩
abbrev cX8_take : ByteArray := prog_10_method_54_code
def yX8_take : MethodName := ⟨RX8, "take", "(I)V"⟩
abbrev cX8_can : ByteArray := prog_10_method_55_code
def yX8_can : MethodName := ⟨RX8, "can", "(II)I"⟩
abbrev cX8_span : ByteArray := prog_10_method_56_code
def yX8_span : MethodName := ⟨RX8, "span", "(IIII)I"⟩
abbrev cX8_held : ByteArray := prog_10_method_57_code
def yX8_held : MethodName := ⟨RX8, "held", "(IIII)I"⟩
abbrev cX8_ones : ByteArray := prog_10_method_58_code
def yX8_ones : MethodName := ⟨RX8, "ones", "(I)I"⟩
abbrev cX8_doubt : ByteArray := prog_10_method_59_code
def yX8_doubt : MethodName := ⟨RX8, "doubt", "(III)I"⟩
abbrev cX8_floatsOf : ByteArray := prog_10_method_60_code
def yX8_floatsOf : MethodName := ⟨RX8, "floatsOf", "(II)I"⟩
abbrev cX8_floats : ByteArray := prog_10_method_61_code
def yX8_floats : MethodName := ⟨RX8, "floats", "(II)I"⟩
abbrev cX8_openNow : ByteArray := prog_10_method_62_code
def yX8_openNow : MethodName := ⟨RX8, "openNow", "(I)I"⟩
abbrev cX8_open : ByteArray := prog_10_method_63_code
def yX8_open : MethodName := ⟨RX8, "open", "(II)I"⟩
abbrev cX8_part : ByteArray := prog_10_method_64_code
def yX8_part : MethodName := ⟨RX8, "part", "()I"⟩
abbrev cX8_wish : ByteArray := prog_10_method_65_code
def yX8_wish : MethodName := ⟨RX8, "wish", "(IIIII)I"⟩
abbrev cX8_closesOf : ByteArray := prog_10_method_66_code
def yX8_closesOf : MethodName := ⟨RX8, "closesOf", "(III)I"⟩
abbrev cX8_closes : ByteArray := prog_10_method_67_code
def yX8_closes : MethodName := ⟨RX8, "closes", "(III)I"⟩
abbrev cX8_best : ByteArray := prog_10_method_68_code
def yX8_best : MethodName := ⟨RX8, "best", "(II)I"⟩
abbrev cX8_tell : ByteArray := prog_10_method_69_code
def yX8_tell : MethodName := ⟨RX8, "tell", "(II)I"⟩
abbrev cX8_mayLast : ByteArray := prog_10_method_70_code
def yX8_mayLast : MethodName := ⟨RX8, "mayLast", "(III)Z"⟩
abbrev cX8_holdsTold : ByteArray := prog_10_method_71_code
def yX8_holdsTold : MethodName := ⟨RX8, "holdsTold", "(I)Z"⟩
abbrev cX8_judge : ByteArray := prog_10_method_72_code
def yX8_judge : MethodName := ⟨RX8, "judge", "(I)I"⟩
abbrev cX8_howMany : ByteArray := prog_10_method_73_code
def yX8_howMany : MethodName := ⟨RX8, "howMany", "(I)I"⟩
abbrev cX8_count : ByteArray := prog_10_method_74_code
def yX8_count : MethodName := ⟨RX8, "count", "(I)I"⟩
abbrev cX8_mix : ByteArray := prog_10_method_75_code
def yX8_mix : MethodName := ⟨RX8, "mix", "(J)V"⟩
abbrev cX8_digest : ByteArray := prog_10_method_76_code
def yX8_digest : MethodName := ⟨RX8, "digest", "()J"⟩
def RL : String := "ReignLaddersLaw"
abbrev cL_law : ByteArray := code
abbrev vwCl : List vw_C := [(RX0, TX0, 2), (RX1, TX1, 18), (RX2, TX2, 4), (RX3, TX3, 5), (RX4, TX4, 3), (RX5, TX5, 7), (RX6, TX6, 5), (RX7, TX7, 9), (RX8, TX8, 34)]
end
section
/-! whole numbers for machine ints -/
abbrev inR (a : Int) : Prop := -2147483648 ≤ a ∧ a ≤ 2147483647
abbrev inL (a : Int) : Prop := -9223372036854775808 ≤ a ∧ a ≤ 9223372036854775807
abbrev iv (a : Int) : Value := .int (Int32.ofInt a)
abbrev lq (a : Int) : Value := .long (Int64.ofInt a)
theorem iv_min : Int32.minValue.toInt = -2147483648 := by decide
theorem iv_max : Int32.maxValue.toInt = 2147483647 := by decide
theorem iv_toInt {a : Int} (h : inR a) : (Int32.ofInt a).toInt = a := Int32.toInt_ofInt_of_le (by omega) (by omega)
theorem iv_le {a b : Int} (ha : inR a) (hb : inR b) : Int32.ofInt a ≤ Int32.ofInt b ↔ a ≤ b := Int32.ofInt_le_iff_le (by rw [iv_min]; exact ha.1) (by rw [iv_max]; exact ha.2) (by rw [iv_min]; exact hb.1) (by rw [iv_max]; exact hb.2)
theorem iv_lt {a b : Int} (ha : inR a) (hb : inR b) : Int32.ofInt a < Int32.ofInt b ↔ a < b := Int32.ofInt_lt_iff_lt (by rw [iv_min]; exact ha.1) (by rw [iv_max]; exact ha.2) (by rw [iv_min]; exact hb.1) (by rw [iv_max]; exact hb.2)
theorem iv_eq {a b : Int} (ha : inR a) (hb : inR b) : Int32.ofInt a = Int32.ofInt b ↔ a = b := ⟨fun h => by have := congrArg Int32.toInt h; rwa [iv_toInt ha, iv_toInt hb] at this, fun h => by rw [h]⟩
theorem iv_zero : (0 : Int32) = Int32.ofInt 0 := by decide
theorem iv_in {i : Int} {n : Nat} (h : inR i) (h0 : 0 ≤ i) (h1 : i < n) : vp_in (Int32.ofInt i) n := vp_in_iff.mpr (by rw [iv_toInt h]; exact ⟨h0, h1⟩)
theorem iv_clamp {i : Int} (h : inR i) : (Int32.ofInt i).toNatClampNeg = i.toNat := Int32.toNatClampNeg_ofInt_of_le (by omega) (by omega)
/-! the tables' words that a contract carries -/
def tb0 : List Cond := lw_tbl.filter goodWord
theorem tb_in {w : Cond} (i : Nat) (h : lw_tbl[i]? = some w) (hg : goodWord w = true) : w ∈ tb0 := List.mem_filter.mpr ⟨List.mem_of_getElem? h, hg⟩
theorem tb_good (y : MethodName) (cc : ByteArray) (n : Nat) (ret : Option FieldType) {Ts : List Cond} (hT : ∀ w ∈ tb0, w ∈ Ts) (hc : Cond.code y cc n ret ∈ tb0) : GoodIn Ts (Cond.code y cc n ret :: tb0) := by
  intro w hw
  rcases List.mem_cons.mp hw with h | h
  · subst h
    exact ⟨hT _ hc, good_of_word (List.mem_filter.mp hc).2⟩
  · exact ⟨hT _ h, good_of_word (List.mem_filter.mp h).2⟩
def nst : List (String × Nat × MethodName × String) := lw_tbl.filterMap fun c => match c with
  | .methodLinkNest a i x h => some (a, i, x, h)
  | _ => none
def NWs (U : State) : Prop := ∀ q ∈ nst, va_Nw (.methodLinkNest q.1 q.2.1 q.2.2.1 q.2.2.2) U
theorem NWs.warm {s U : State} (hW : s.WarmedH U.vm) (h : NWs s) : NWs U := fun q hq => va_Nw.warmM hW (h q hq)
theorem NWs.same {u U : State} (hv : u.vm = U.vm) (h : NWs u) : NWs U := fun q hq => va_Nw.same rfl hv (h q hq)
/-! a side's world: cell and place to a whole number; its shape: arrays (kind of element, length) and objects (class, a code for each field: 0 int, 1 long, 2 boolean, k + 3 a reference to cell k) -/
abbrev Wd : Type := Nat → Int → Int
abbrev Shp : Type := (Nat × Nat) ⊕ (Nat × List Nat)
abbrev Gc : Type := Launch × (Nat → Nat) × va_G × (Nat → ClassId) × (Nat → Shp) × Nat
abbrev gl (G : Gc) : Launch := G.1
abbrev ga (G : Gc) : Nat → Nat := G.2.1
abbrev gD (G : Gc) : va_G := G.2.2.1
abbrev gt (G : Gc) : Nat → ClassId := G.2.2.2.1
abbrev gS (G : Gc) : Nat → Shp := G.2.2.2.2.1
abbrev gn (G : Gc) : Nat := G.2.2.2.2.2
abbrev gT (G : Gc) : List (ClassId × FieldType) := [(gt G 0, .int), (gt G 1, .byte), (gt G 2, .boolean)]
def fv (G : Gc) (w : Wd) (k : Nat) (j : Nat) (c : Nat) : Value := match c with
  | 0 => iv (w k j)
  | 1 => lq (w k j)
  | 2 => iv (w k j)
  | t + 3 => .ref (ga G t)
def fvs (G : Gc) (w : Wd) (k : Nat) : Nat → List Nat → List Value
  | _, [] => []
  | j, c :: t => fv G w k j c :: fvs G w k (j + 1) t
theorem fvs_get (G : Gc) (w : Wd) (k : Nat) : ∀ (l : List Nat) (j i : Nat), (fvs G w k j l)[i]? = (l[i]?).map (fun c => fv G w k (j + i) c)
  | [], _, i => by simp [fvs]
  | c :: t, j, 0 => by simp [fvs]
  | c :: t, j, i + 1 => by simp only [fvs, List.getElem?_cons_succ, fvs_get G w k t (j + 1) i]; rw [show j + 1 + i = j + (i + 1) by omega]
theorem fvs_len (G : Gc) (w : Wd) (k : Nat) : ∀ (l : List Nat) (j : Nat), (fvs G w k j l).length = l.length
  | [], _ => rfl
  | c :: t, j => by simp only [fvs, List.length_cons, fvs_len G w k t (j + 1)]
def cel (G : Gc) (w : Wd) (k : Nat) : va_E := match gS G k with
  | .inl q => .inl (gt G q.1, (q.2, .inl (fun j => Int32.ofInt (w k (j : Int)))))
  | .inr q => .inr (q.1, fvs G w k 0 q.2)
def cels (G : Gc) (w : Wd) : va_W := (List.range (gn G)).map fun k => (ga G k, cel G w k)
theorem cels_get {G : Gc} {w : Wd} {k : Nat} (h : k < gn G) : (cels G w)[k]? = some (ga G k, cel G w k) := by simp [cels, h]
theorem cel_A {G : Gc} {w : Wd} {k t n : Nat} (h : gS G k = .inl (t, n)) : cel G w k = .inl (gt G t, (n, .inl (fun j => Int32.ofInt (w k (j : Int))))) := by simp only [cel, h]
theorem cel_O {G : Gc} {w : Wd} {k ci : Nat} {fs : List Nat} (h : gS G k = .inr (ci, fs)) : cel G w k = .inr (ci, fvs G w k 0 fs) := by simp only [cel, h]
def up (w : Wd) (k : Nat) (i v : Int) : Wd := fun k' i' => if k' = k ∧ i' = i then v else w k' i'
theorem up_self (w : Wd) (k : Nat) (i v : Int) : up w k i v k i = v := by simp [up]
theorem up_cell {w : Wd} {k k' : Nat} {i v : Int} (h : k' ≠ k) : up w k i v k' = w k' := by funext j; simp [up, h]
theorem up_ne {w : Wd} {k k' : Nat} {i j v : Int} (h : ¬ (k' = k ∧ j = i)) : up w k i v k' j = w k' j := by simp [up, h]
theorem cel_ext {G : Gc} {w w' : Wd} {k : Nat} (h : ∀ i, w' k i = w k i) : cel G w' k = cel G w k := by
  have e : w' k = w k := funext h
  unfold cel
  cases gS G k with
  | inl q => simp only [e]
  | inr q =>
    have : ∀ (l : List Nat) (j : Nat), fvs G w' k j l = fvs G w k j l := by
      intro l
      induction l with
      | nil => intro j; rfl
      | cons c t ih => intro j; simp only [fvs, ih]; congr 1; unfold fv; simp only [e]
    simp only [this]
theorem cels_upd {G : Gc} {w w' : Wd} {k : Nat} {e : va_E} (hw : ∀ k', k' ≠ k → w' k' = w k') (he : cel G w' k = e) : (cels G w).set k (ga G k, e) = cels G w' := by
  apply List.ext_getElem?
  intro j
  by_cases hj : j < gn G
  · by_cases hk : j = k
    · subst hk
      rw [List.getElem?_set_self (by simp [cels]; exact hj), cels_get hj, he]
    · rw [List.getElem?_set_ne (Ne.symm hk), cels_get hj, cels_get hj, cel_ext (fun i => congrFun (hw j hk) i)]
  · rw [List.getElem?_eq_none (by simp [cels]; omega), List.getElem?_eq_none (by simp [cels]; omega)]
/-! ranges: what a cell holds is in the range of its kind -/
def rT (t : Nat) (a : Int) : Prop := match t with
  | 0 => inR a
  | 1 => -128 ≤ a ∧ a ≤ 127
  | _ => 0 ≤ a ∧ a ≤ 1
def rF (c : Nat) (a : Int) : Prop := match c with
  | 0 => inR a
  | 1 => inL a
  | 2 => 0 ≤ a ∧ a ≤ 1
  | _ => True
def okW (G : Gc) (w : Wd) : Prop := (∀ k t n, gS G k = .inl (t, n) → ∀ i : Int, 0 ≤ i → i < n → rT t (w k i)) ∧ ∀ k ci fs, gS G k = .inr (ci, fs) → ∀ j c, fs[j]? = some c → rF c (w k (j : Nat))
theorem okW.upA {G : Gc} {w : Wd} (h : okW G w) {k t n : Nat} (hs : gS G k = .inl (t, n)) {i v : Int} (hv : rT t v) : okW G (up w k i v) := by
  refine ⟨fun k' t' n' hs' j h0 h1 => ?_, fun k' ci fs hs' j c hc => ?_⟩
  · by_cases e : k' = k ∧ j = i
    · obtain ⟨rfl, rfl⟩ := e
      rw [hs] at hs'
      cases hs'
      rw [up_self]; exact hv
    · rw [up_ne e]; exact h.1 k' t' n' hs' j h0 h1
  · by_cases e : k' = k
    · subst e
      rw [hs] at hs'
      cases hs'
    · rw [up_ne (fun q => e q.1)]; exact h.2 k' ci fs hs' j c hc
theorem okW.upF {G : Gc} {w : Wd} (h : okW G w) {k ci j c : Nat} {fs : List Nat} (hs : gS G k = .inr (ci, fs)) (hc : fs[j]? = some c) {v : Int} (hv : rF c v) : okW G (up w k (j : Nat) v) := by
  refine ⟨fun k' t' n' hs' i h0 h1 => ?_, fun k' ci' fs' hs' j' c' hc' => ?_⟩
  · by_cases e : k' = k
    · subst e
      rw [hs] at hs'
      cases hs'
    · rw [up_ne (fun q => e q.1)]; exact h.1 k' t' n' hs' i h0 h1
  · by_cases e : k' = k ∧ ((j' : Nat) : Int) = (j : Nat)
    · obtain ⟨rfl, e2⟩ := e
      have : j' = j := by omega
      subst this
      rw [hs] at hs'
      cases hs'
      rw [hc] at hc'
      cases hc'
      rw [up_self]; exact hv
    · rw [up_ne e]; exact h.2 k' ci' fs' hs' j' c' hc'
/-! locals, by place -/
def lg : List (Option Value) → Nat → Option Value
  | [], _ => none
  | x :: _, 0 => x
  | _ :: t, i + 1 => lg t i
def lst : List (Option Value) → Nat → Option Value → List (Option Value)
  | [], 0, v => [v]
  | [], i + 1, v => none :: lst [] i v
  | _ :: t, 0, v => v :: t
  | x :: t, i + 1, v => x :: lst t i v
theorem lg_nil (i : Nat) : lg [] i = none := by cases i <;> rfl
theorem lg_lst : ∀ (i : Nat) (l : List (Option Value)) (v : Option Value) (j : Nat), lg (lst l i v) j = if j = i then v else lg l j
  | 0, [], v, 0 => rfl
  | 0, [], v, j + 1 => by simp [lst, lg]
  | 0, x :: t, v, 0 => rfl
  | 0, x :: t, v, j + 1 => by simp [lst, lg]
  | i + 1, [], v, 0 => by simp [lst, lg]
  | i + 1, [], v, j + 1 => by simp [lst, lg, lg_lst i [] v j, lg_nil]
  | i + 1, x :: t, v, 0 => by simp [lst, lg]
  | i + 1, x :: t, v, j + 1 => by simp [lst, lg, lg_lst i t v j]
def isL (v : Option Value) : Bool := match v with
  | some (.long _) => true
  | some (.double _) => true
  | _ => false
def okst (l : List (Option Value)) (i : Nat) : Bool := match i with
  | 0 => true
  | j + 1 => !(isL (lg l j))
theorem isL_cat {v : Value} (h : v.category = 2) : isL (some v) = true := by cases v <;> simp [Value.category, isL] at h ⊢
def lh (ls : Array Slot) (nL : Nat) (l : List (Option Value)) : Prop := ls.size = nL ∧ lv_wf ls ∧ ∀ i v, lg l i = some v → ls[i]? = some (.val v)
def asc : Nat → List (Option Value) → List (Nat × Value)
  | _, [] => []
  | k, none :: t => asc (k + 1) t
  | k, some v :: t => (k, v) :: asc (k + 1) t
theorem asc_mem : ∀ (l : List (Option Value)) (k i : Nat) (v : Value), (i, v) ∈ asc k l ↔ ∃ j, i = k + j ∧ lg l j = some v
  | [], k, i, v => by simp [asc, lg_nil]
  | none :: t, k, i, v => by
    rw [show asc k (none :: t) = asc (k + 1) t from rfl, asc_mem t (k + 1) i v]
    constructor
    · rintro ⟨j, h1, h2⟩; exact ⟨j + 1, by omega, h2⟩
    · rintro ⟨j, h1, h2⟩
      cases j with
      | zero => simp [lg] at h2
      | succ j => exact ⟨j, by omega, h2⟩
  | some u :: t, k, i, v => by
    rw [show asc k (some u :: t) = (k, u) :: asc (k + 1) t from rfl, List.mem_cons, asc_mem t (k + 1) i v]
    constructor
    · rintro (h | ⟨j, h1, h2⟩)
      · cases h; exact ⟨0, by omega, rfl⟩
      · exact ⟨j + 1, by omega, h2⟩
    · rintro ⟨j, h1, h2⟩
      cases j with
      | zero => simp only [lg, Option.some.injEq] at h2; left; rw [h1, h2]; rfl
      | succ j => right; exact ⟨j, by omega, h2⟩
theorem lh.has {ls : Array Slot} {nL : Nat} {l : List (Option Value)} (h : lh ls nL l) : lv_has ls nL (asc 0 l) := ⟨h.1, h.2.1, fun q hq => by
  obtain ⟨i, v⟩ := q
  obtain ⟨j, h1, h2⟩ := (asc_mem l 0 i v).mp hq
  have : i = j := by omega
  subst this
  exact h.2.2 _ _ h2⟩
theorem lh.at {ls : Array Slot} {nL : Nat} {l : List (Option Value)} (h : lh ls nL l) {i : Nat} {v : Value} (e : lg l i = some v) : ls[i]? = some (.val v) := h.2.2 i v e
theorem lh_st1 {ls' : Array Slot} {nL i : Nat} {v : Value} {l : List (Option Value)} (ho : okst l i = true) (h : lv_has ls' nL ((i, v) :: (asc 0 l).filter (fun q => !(q.1 == i) && !(q.1 + 1 == i && q.2.category == 2)))) : lh ls' nL (lst l i (some v)) := by
  refine ⟨h.1, h.2.1, fun j u hj => ?_⟩
  rw [lg_lst] at hj
  by_cases e : j = i
  · rw [if_pos e] at hj
    cases hj
    subst e
    exact h.2.2 (j, v) List.mem_cons_self
  · rw [if_neg e] at hj
    refine h.2.2 (j, u) (List.mem_cons_of_mem _ (List.mem_filter.mpr ⟨(asc_mem l 0 j u).mpr ⟨j, by omega, hj⟩, ?_⟩))
    have h1 : (j == i) = false := by simpa using e
    by_cases h2 : j + 1 = i
    · subst h2
      have h3 : ¬ u.category = 2 := by
        intro hc
        simp only [okst, hj, isL_cat hc] at ho
        cases ho
      simp [e, h3]
    · simp [e, h2]
theorem lh_st2 {ls' : Array Slot} {nL i : Nat} {v : Value} {l : List (Option Value)} (ho : okst l i = true) (h : lv_has ls' nL ((i, v) :: (asc 0 l).filter (fun q => !(q.1 == i) && (!(q.1 == i + 1) && !(q.1 + 1 == i && q.2.category == 2))))) : lh ls' nL (lst (lst l (i + 1) none) i (some v)) := by
  refine ⟨h.1, h.2.1, fun j u hj => ?_⟩
  rw [lg_lst] at hj
  by_cases e : j = i
  · rw [if_pos e] at hj
    cases hj
    subst e
    exact h.2.2 (j, v) List.mem_cons_self
  · rw [if_neg e, lg_lst] at hj
    by_cases e2 : j = i + 1
    · rw [if_pos e2] at hj; cases hj
    · rw [if_neg e2] at hj
      refine h.2.2 (j, u) (List.mem_cons_of_mem _ (List.mem_filter.mpr ⟨(asc_mem l 0 j u).mpr ⟨j, by omega, hj⟩, ?_⟩))
      by_cases h2 : j + 1 = i
      · subst h2
        have h3 : ¬ u.category = 2 := by
          intro hc
          simp only [okst, hj, isL_cat hc] at ho
          cases ho
        simp [e, e2, h3]
      · simp [e, e2, h2]
def ent : List Value → List (Option Value)
  | [] => []
  | v :: t => if v.category = 2 then some v :: none :: ent t else some v :: ent t
theorem ent_args : ∀ (vs : List Value) (k i : Nat) (v : Value), lg (ent vs) i = some v → (k + i, v) ∈ lv_args k vs
  | [], k, i, v => by simp [ent, lg_nil]
  | u :: t, k, i, v => by
    intro h
    by_cases hc : u.category = 2
    · rw [ent, if_pos hc] at h
      rw [lv_args, if_pos hc]
      match i, h with
      | 0, h => simp only [lg, Option.some.injEq] at h; subst h; exact List.mem_cons_self
      | 1, h => simp [lg] at h
      | i + 2, h => exact List.mem_cons_of_mem _ (by have := ent_args t (k + 2) i v h; rwa [show k + 2 + i = k + (i + 2) by omega] at this)
    · rw [ent, if_neg hc] at h
      rw [lv_args, if_neg hc]
      match i, h with
      | 0, h => simp only [lg, Option.some.injEq] at h; subst h; exact List.mem_cons_self
      | i + 1, h => exact List.mem_cons_of_mem _ (by have := ent_args t (k + 1) i v h; rwa [show k + 1 + i = k + (i + 1) by omega] at this)
theorem lh_ent {ls : Array Slot} {nL : Nat} {vs : List Value} (h : lv_has ls nL (lv_args 0 vs)) : lh ls nL (ent vs) := ⟨h.1, h.2.1, fun i v e => h.2.2 (i, v) (by have := ent_args vs 0 i v e; rwa [Nat.zero_add] at this)⟩
/-! the judgement -/
abbrev Xc : Type := Program × Env × Room × State × MethodId × Array Value × List Frame × Method × Code × (Addr → Prop)
abbrev xp (X : Xc) : Program := X.1
abbrev xe (X : Xc) : Env := X.2.1
abbrev xR (X : Xc) : Room := X.2.2.1
abbrev xs (X : Xc) : State := X.2.2.2.1
abbrev xm (X : Xc) : MethodId := X.2.2.2.2.1
abbrev xa (X : Xc) : Array Value := X.2.2.2.2.2.1
abbrev xb (X : Xc) : List Frame := X.2.2.2.2.2.2.1
abbrev xt (X : Xc) : Method := X.2.2.2.2.2.2.2.1
abbrev xc (X : Xc) : Code := X.2.2.2.2.2.2.2.2.1
abbrev xA (X : Xc) : Addr → Prop := X.2.2.2.2.2.2.2.2.2
/-- what a method leaves: an answer and a world of which post holds; nothing else has changed -/
def Qg (G : Gc) (post : Option Value → Wd → Prop) (A : Addr → Prop) : Array Value → State → Outcome → State → Prop := fun _ st oc t =>
  (∃ (v : Option Value) (w : Wd), oc = .returned v ∧ post v w ∧ okW G w ∧ va_P (gD G) vwCl (cels G w) t.heap ∧ va_K (gD G) vwCl (gT G) t ∧ va_D A (cels G w)) ∧ va_F A st t
def Jw (G : Gc) (X : Xc) (post : Option Value → Wd → Prop) (pc : Nat) (lv : List (Option Value)) (st : List Value) (w : Wd) : Prop :=
  ∀ (H : Heap) (locs : List Loc) (ls : Array Slot), va_P (gD G) vwCl (cels G w) H → va_D (xA X) (cels G w) → va_S (xA X) (xs X).heap H locs → okW G w → lh ls (xc X).maxLocals lv →
    W (xp X) (gl G) (xe X) (xR X) (xs X) (xm X) (xa X) (xb X) (xt X) (xc X) H locs 0 0 (MQ (xb X) (Qg G post (xA X)) (xa X) (xs X) 0 0 (xA X)) (F0 (xm X) pc ls st)
/-- what holds all along a method's walk: own: its class, cc: its code, nL: its locals, d: its depth, ret: its result -/
def Fx (G : Gc) (X : Xc) (own : String) (cc : ByteArray) (nL d : Nat) (ret : Option FieldType) : Prop :=
  (xp X).tables.exec = Jvm.exec ∧ (xc X).code = cc ∧ (xc X).maxLocals = nL ∧ (xs X).vm.findClass own = some (xm X).cls ∧ (∀ w ∈ tb0, w.before (xa X) (xs X) = true) ∧ va_K (gD G) vwCl (gT G) (xs X) ∧ NWs (xs X) ∧
  (xt X).sig.returnType = ret ∧ (xt X).locks = false ∧ (xR X).frames = d ∧ (xR X).locals = 40 * d ∧ (xR X).cells = 0 ∧ (xR X).slots = 0 ∧ ∀ q, (xs X).heap.size ≤ q → xA X q
/-- a method's contract, for the answer and the world that it comes to -/
def Sp (G : Gc) (d : Nat) (y : MethodName) (cc : ByteArray) (nL : Nat) (ret : Option FieldType) (args : List Value) (w : Wd) (post : Option Value → Wd → Prop) : Prop := okW G w → ∀ sz : Nat,
  Met (gl G) y (Cond.code y cc nL ret :: tb0) { frames := d, cells := 0, slots := 0, locals := 40 * d } (va_Pc args (fun U => U.heap.size = sz ∧ va_P (gD G) vwCl (cels G w) U.heap ∧ va_K (gD G) vwCl (gT G) U ∧ NWs U ∧ va_D (fun _ => True) (cels G w)))
    (Qg G post (va_A (cels G w) sz)) 0 0 (va_A (cels G w) sz)
theorem Sp.of {G : Gc} {d : Nat} {y : MethodName} {cc : ByteArray} {nL : Nat} {ret : Option FieldType} {args : List Value} {w : Wd} {post : Option Value → Wd → Prop} (hy : plainName y.cls = true) (hn : (lg_sl args).length ≤ nL)
    (k : ∀ X : Xc, Fx G X y.cls cc nL d ret → Jw G X post 0 (ent args) [] w) : Sp G d y cc nL ret args w post := by
  intro hO sz
  refine Met.ofW (cc := cc) (maxL := nL) (ret := ret) hy rfl ?_
  intro p e s m a below meth c s₁ B hml hv
  obtain ⟨rfl, hsz, hP, hK, hN, hD0⟩ := hv
  have hts := atoms_spec (ws := Cond.code y cc nL ret :: tb0) B.pre
  have hown : s.vm.findClass y.cls = some m.cls := findClass_of_methodNamed B.named
  subst hsz
  have hD := hD0.self (sz := s.heap.size)
  have hS : va_S (va_A (cels G w) s.heap.size) s.heap s.heap [] := va_S.rf
  have hl := lv_entry args (n := nL) hn
  rw [lg_entry_eq]
  exact k (p, e, { frames := d, cells := 0, slots := 0, locals := 40 * d }, s, m, args.toArray, below, meth, c, va_A (cels G w) s.heap.size)
    ⟨B.exec, B.bytes, hml, hown, fun q hq => hts q (List.mem_cons_of_mem _ hq), hK, hN, B.returns, B.notSynchronized, rfl, rfl, rfl, rfl, fun q h => Or.inr h⟩ s.heap [] _ hP hD hS hO (lh_ent (by rw [show (xc (p, e, ({ frames := d, cells := 0, slots := 0, locals := 40 * d } : Room), s, m, args.toArray, below, meth, c, va_A (cels G w) s.heap.size)).maxLocals = nL from hml]; exact hl))
theorem Sp.mono {G : Gc} {d : Nat} {y : MethodName} {cc : ByteArray} {nL : Nat} {ret : Option FieldType} {args : List Value} {w : Wd} {post post' : Option Value → Wd → Prop} (h : Sp G d y cc nL ret args w post) (hp : ∀ v u, post v u → post' v u) : Sp G d y cc nL ret args w post' := by
  intro hO sz p e ha hc hk s m args below hf happ hP hK
  obtain ⟨t, o, h1, h2, h3, h4, h5⟩ := h hO sz p e ha hc hk s m args below hf happ hP hK
  obtain ⟨⟨v, u, a1, a2, a3⟩, a4⟩ := h4
  exact ⟨t, o, h1, h2, h3, ⟨⟨v, u, a1, hp v u a2, a3⟩, a4⟩, h5⟩
end
section
theorem iv_tdiv {a b : Int} (ha : inR a) (hb : inR b) : Int32.ofInt (a.tdiv b) = Int32.ofInt a / Int32.ofInt b := Int32.ofInt_tdiv (by rw [iv_min]; exact ha.1) (by rw [iv_max]; exact ha.2) (by rw [iv_min]; exact hb.1) (by rw [iv_max]; exact hb.2)
section JR
variable {G : Gc} {X : Xc} {own : String} {cc : ByteArray} {nL d : Nat} {ret : Option FieldType} {post : Option Value → Wd → Prop} {pc : Nat} {lv : List (Option Value)} {rest : List Value} {w : Wd}
theorem jr_iconst (F : Fx G X own cc nL d ret) {n : Int} (hd : decode cc pc = .ok (.iconst n, 1))
    (k : Jw G X post (pc + 1) lv (iv n :: rest) w) : Jw G X post pc lv rest w := by
  intro H locs ls hP hD hS hO hl
  exact lv_iconst F.1 F.2.1 hd rfl (k H locs ls hP hD hS hO hl)
theorem jr_bipush (F : Fx G X own cc nL d ret) {n : Int} (hd : decode cc pc = .ok (.bipush n, 2)) (hv : (Int8.ofInt n).toInt32 = Int32.ofInt n)
    (k : Jw G X post (pc + 2) lv (iv n :: rest) w) : Jw G X post pc lv rest w := by
  intro H locs ls hP hD hS hO hl
  exact lv_bipush F.1 F.2.1 hd hv (k H locs ls hP hD hS hO hl)
theorem jr_sipush (F : Fx G X own cc nL d ret) {n : Int} (hd : decode cc pc = .ok (.sipush n, 3)) (hv : (Int16.ofInt n).toInt32 = Int32.ofInt n)
    (k : Jw G X post (pc + 3) lv (iv n :: rest) w) : Jw G X post pc lv rest w := by
  intro H locs ls hP hD hS hO hl
  exact lv_sipush F.1 F.2.1 hd hv (k H locs ls hP hD hS hO hl)
theorem jr_lconst (F : Fx G X own cc nL d ret) {n : Fin 2} {z : Int} (hd : decode cc pc = .ok (.lconst n, 1)) (hv : Int64.ofNat (n : Nat) = Int64.ofInt z)
    (k : Jw G X post (pc + 1) lv (lq z :: rest) w) : Jw G X post pc lv rest w := by
  intro H locs ls hP hD hS hO hl
  exact lv_lconst F.1 F.2.1 hd hv (k H locs ls hP hD hS hO hl)
theorem jr_ldc (F : Fx G X own cc nL d ret) {i : Nat} {z : Int} (hd : decode cc pc = .ok (.ldc i, 2)) (hw : Cond.constant own i (Int32.ofInt z) ∈ tb0)
    (k : Jw G X post (pc + 2) lv (iv z :: rest) w) : Jw G X post pc lv rest w := by
  intro H locs ls hP hD hS hO hl
  exact lv_ldc F.1 F.2.1 F.2.2.2.1 (F.2.2.2.2.1 _ hw) hd (k H locs ls hP hD hS hO hl)
theorem jr_ldcw (F : Fx G X own cc nL d ret) {i : Nat} {z : Int} (hd : decode cc pc = .ok (.ldc_w i, 3)) (hw : Cond.constant own i (Int32.ofInt z) ∈ tb0)
    (k : Jw G X post (pc + 3) lv (iv z :: rest) w) : Jw G X post pc lv rest w := by
  intro H locs ls hP hD hS hO hl
  exact lv_ldcw F.1 F.2.1 F.2.2.2.1 (F.2.2.2.2.1 _ hw) hd (k H locs ls hP hD hS hO hl)
theorem jr_ldc2 (F : Fx G X own cc nL d ret) {i : Nat} {z : Int} (hd : decode cc pc = .ok (.ldc2_w i, 3)) (hw : Cond.constantLong own i (Int64.ofInt z) ∈ tb0)
    (k : Jw G X post (pc + 3) lv (lq z :: rest) w) : Jw G X post pc lv rest w := by
  intro H locs ls hP hD hS hO hl
  exact lv_ldc2 F.1 F.2.1 F.2.2.2.1 (F.2.2.2.2.1 _ hw) hd (k H locs ls hP hD hS hO hl)
theorem jr_iload_n (F : Fx G X own cc nL d ret) {i : Fin 4} {x : Int32} (hd : decode cc pc = .ok (.iload_n i, 1)) (hl : lg lv (i : Nat) = some (.int x))
    (k : Jw G X post (pc + 1) lv (.int x :: rest) w) : Jw G X post pc lv rest w := by
  intro H locs ls hP hD hS hO hl'
  exact lv_iload_n F.1 F.2.1 hd rfl (hl'.at hl) (k H locs ls hP hD hS hO hl')
theorem jr_iload (F : Fx G X own cc nL d ret) {i : Nat} {x : Int32} (hd : decode cc pc = .ok (.iload i, 2)) (hl : lg lv i = some (.int x))
    (k : Jw G X post (pc + 2) lv (.int x :: rest) w) : Jw G X post pc lv rest w := by
  intro H locs ls hP hD hS hO hl'
  exact lv_iload F.1 F.2.1 hd (hl'.at hl) (k H locs ls hP hD hS hO hl')
theorem jr_lload_n (F : Fx G X own cc nL d ret) {i : Fin 4} {x : Int64} (hd : decode cc pc = .ok (.lload_n i, 1)) (hl : lg lv (i : Nat) = some (.long x))
    (k : Jw G X post (pc + 1) lv (.long x :: rest) w) : Jw G X post pc lv rest w := by
  intro H locs ls hP hD hS hO hl'
  exact lv_lload_n F.1 F.2.1 hd rfl (hl'.at hl) (k H locs ls hP hD hS hO hl')
theorem jr_lload (F : Fx G X own cc nL d ret) {i : Nat} {x : Int64} (hd : decode cc pc = .ok (.lload i, 2)) (hl : lg lv i = some (.long x))
    (k : Jw G X post (pc + 2) lv (.long x :: rest) w) : Jw G X post pc lv rest w := by
  intro H locs ls hP hD hS hO hl'
  exact lv_lload F.1 F.2.1 hd (hl'.at hl) (k H locs ls hP hD hS hO hl')
theorem jr_aload_n (F : Fx G X own cc nL d ret) {i : Fin 4} {x : Nat} (hd : decode cc pc = .ok (.aload_n i, 1)) (hl : lg lv (i : Nat) = some (.ref x))
    (k : Jw G X post (pc + 1) lv (.ref x :: rest) w) : Jw G X post pc lv rest w := by
  intro H locs ls hP hD hS hO hl'
  exact lv_aload_n F.1 F.2.1 hd rfl (hl'.at hl) (k H locs ls hP hD hS hO hl')
theorem jr_aload (F : Fx G X own cc nL d ret) {i : Nat} {x : Nat} (hd : decode cc pc = .ok (.aload i, 2)) (hl : lg lv i = some (.ref x))
    (k : Jw G X post (pc + 2) lv (.ref x :: rest) w) : Jw G X post pc lv rest w := by
  intro H locs ls hP hD hS hO hl'
  exact lv_aload F.1 F.2.1 hd (hl'.at hl) (k H locs ls hP hD hS hO hl')
theorem jr_istore_n (F : Fx G X own cc nL d ret) {i : Fin 4} {x : Int32} (hd : decode cc pc = .ok (.istore_n i, 1)) (hn : (i : Nat) < nL) (ho : okst lv (i : Nat) = true)
    (k : Jw G X post (pc + 1) (lst lv (i : Nat) (some (.int x))) rest w) : Jw G X post pc lv (.int x :: rest) w := by
  intro H locs ls hP hD hS hO hl
  exact lv_istore_n F.1 F.2.1 hd rfl hl.has (by rw [F.2.2.1]; exact hn) rfl (fun ls' h' => k H locs ls' hP hD hS hO (lh_st1 ho h'))
theorem jr_istore (F : Fx G X own cc nL d ret) {i : Nat} {x : Int32} (hd : decode cc pc = .ok (.istore i, 2)) (hn : i < nL) (ho : okst lv i = true)
    (k : Jw G X post (pc + 2) (lst lv i (some (.int x))) rest w) : Jw G X post pc lv (.int x :: rest) w := by
  intro H locs ls hP hD hS hO hl
  exact lv_istore F.1 F.2.1 hd hl.has (by rw [F.2.2.1]; exact hn) rfl (fun ls' h' => k H locs ls' hP hD hS hO (lh_st1 ho h'))
theorem jr_astore_n (F : Fx G X own cc nL d ret) {i : Fin 4} {x : Nat} (hd : decode cc pc = .ok (.astore_n i, 1)) (hn : (i : Nat) < nL) (ho : okst lv (i : Nat) = true)
    (k : Jw G X post (pc + 1) (lst lv (i : Nat) (some (.ref x))) rest w) : Jw G X post pc lv (.ref x :: rest) w := by
  intro H locs ls hP hD hS hO hl
  exact lv_astore_n F.1 F.2.1 hd rfl hl.has (by rw [F.2.2.1]; exact hn) rfl (fun ls' h' => k H locs ls' hP hD hS hO (lh_st1 ho h'))
theorem jr_astore (F : Fx G X own cc nL d ret) {i : Nat} {x : Nat} (hd : decode cc pc = .ok (.astore i, 2)) (hn : i < nL) (ho : okst lv i = true)
    (k : Jw G X post (pc + 2) (lst lv i (some (.ref x))) rest w) : Jw G X post pc lv (.ref x :: rest) w := by
  intro H locs ls hP hD hS hO hl
  exact lv_astore F.1 F.2.1 hd hl.has (by rw [F.2.2.1]; exact hn) rfl (fun ls' h' => k H locs ls' hP hD hS hO (lh_st1 ho h'))
theorem jr_lstore_n (F : Fx G X own cc nL d ret) {i : Fin 4} {x : Int64} (hd : decode cc pc = .ok (.lstore_n i, 1)) (hn : (i : Nat) + 1 < nL) (ho : okst lv (i : Nat) = true)
    (k : Jw G X post (pc + 1) (lst (lst lv ((i : Nat) + 1) none) (i : Nat) (some (.long x))) rest w) : Jw G X post pc lv (.long x :: rest) w := by
  intro H locs ls hP hD hS hO hl
  exact lv_lstore_n F.1 F.2.1 hd rfl hl.has (by rw [F.2.2.1]; exact hn) rfl (fun ls' h' => k H locs ls' hP hD hS hO (lh_st2 ho h'))
theorem jr_lstore (F : Fx G X own cc nL d ret) {i : Nat} {x : Int64} (hd : decode cc pc = .ok (.lstore i, 2)) (hn : i + 1 < nL) (ho : okst lv i = true)
    (k : Jw G X post (pc + 2) (lst (lst lv (i + 1) none) i (some (.long x))) rest w) : Jw G X post pc lv (.long x :: rest) w := by
  intro H locs ls hP hD hS hO hl
  exact lv_lstore F.1 F.2.1 hd hl.has (by rw [F.2.2.1]; exact hn) rfl (fun ls' h' => k H locs ls' hP hD hS hO (lh_st2 ho h'))
theorem jr_iadd (F : Fx G X own cc nL d ret) {a b : Int} (hd : decode cc pc = .ok (.iadd, 1))
    (k : Jw G X post (pc + 1) lv (iv (a + b) :: rest) w) : Jw G X post pc lv (iv b :: iv a :: rest) w := by
  intro H locs ls hP hD hS hO hl
  have h := k H locs ls hP hD hS hO hl
  rw [iv, Int32.ofInt_add] at h
  exact lv_iadd F.1 F.2.1 hd h
theorem jr_isub (F : Fx G X own cc nL d ret) {a b : Int} (hd : decode cc pc = .ok (.isub, 1))
    (k : Jw G X post (pc + 1) lv (iv (a - b) :: rest) w) : Jw G X post pc lv (iv b :: iv a :: rest) w := by
  intro H locs ls hP hD hS hO hl
  have h := k H locs ls hP hD hS hO hl
  rw [iv, Int32.ofInt_sub] at h
  exact lv_isub F.1 F.2.1 hd h
theorem jr_imul (F : Fx G X own cc nL d ret) {a b : Int} (hd : decode cc pc = .ok (.imul, 1))
    (k : Jw G X post (pc + 1) lv (iv (a * b) :: rest) w) : Jw G X post pc lv (iv b :: iv a :: rest) w := by
  intro H locs ls hP hD hS hO hl
  have h := k H locs ls hP hD hS hO hl
  rw [iv, Int32.ofInt_mul] at h
  exact lv_imul F.1 F.2.1 hd h
theorem jr_ineg (F : Fx G X own cc nL d ret) {a : Int} (hd : decode cc pc = .ok (.ineg, 1))
    (k : Jw G X post (pc + 1) lv (iv (-a) :: rest) w) : Jw G X post pc lv (iv a :: rest) w := by
  intro H locs ls hP hD hS hO hl
  have h := k H locs ls hP hD hS hO hl
  rw [iv, Int32.ofInt_neg] at h
  exact lv_ineg F.1 F.2.1 hd h
theorem jr_ladd (F : Fx G X own cc nL d ret) {a b : Int} (hd : decode cc pc = .ok (.ladd, 1))
    (k : Jw G X post (pc + 1) lv (lq (a + b) :: rest) w) : Jw G X post pc lv (lq b :: lq a :: rest) w := by
  intro H locs ls hP hD hS hO hl
  have h := k H locs ls hP hD hS hO hl
  rw [lq, Int64.ofInt_add] at h
  exact lv_ladd F.1 F.2.1 hd h
theorem jr_lmul (F : Fx G X own cc nL d ret) {a b : Int} (hd : decode cc pc = .ok (.lmul, 1))
    (k : Jw G X post (pc + 1) lv (lq (a * b) :: rest) w) : Jw G X post pc lv (lq b :: lq a :: rest) w := by
  intro H locs ls hP hD hS hO hl
  have h := k H locs ls hP hD hS hO hl
  rw [lq, Int64.ofInt_mul] at h
  exact lv_lmul F.1 F.2.1 hd h
theorem jr_iand (F : Fx G X own cc nL d ret) {x y : Int32} (hd : decode cc pc = .ok (.iand, 1))
    (k : Jw G X post (pc + 1) lv (.int (x &&& y) :: rest) w) : Jw G X post pc lv (.int y :: .int x :: rest) w := by
  intro H locs ls hP hD hS hO hl
  exact lv_iand F.1 F.2.1 hd (k H locs ls hP hD hS hO hl)
theorem jr_ior (F : Fx G X own cc nL d ret) {x y : Int32} (hd : decode cc pc = .ok (.ior, 1))
    (k : Jw G X post (pc + 1) lv (.int (x ||| y) :: rest) w) : Jw G X post pc lv (.int y :: .int x :: rest) w := by
  intro H locs ls hP hD hS hO hl
  exact lv_ior F.1 F.2.1 hd (k H locs ls hP hD hS hO hl)
theorem jr_ixor (F : Fx G X own cc nL d ret) {x y : Int32} (hd : decode cc pc = .ok (.ixor, 1))
    (k : Jw G X post (pc + 1) lv (.int (x ^^^ y) :: rest) w) : Jw G X post pc lv (.int y :: .int x :: rest) w := by
  intro H locs ls hP hD hS hO hl
  exact lv_ixor F.1 F.2.1 hd (k H locs ls hP hD hS hO hl)
theorem jr_land (F : Fx G X own cc nL d ret) {x y : Int64} (hd : decode cc pc = .ok (.land, 1))
    (k : Jw G X post (pc + 1) lv (.long (x &&& y) :: rest) w) : Jw G X post pc lv (.long y :: .long x :: rest) w := by
  intro H locs ls hP hD hS hO hl
  exact lv_land F.1 F.2.1 hd (k H locs ls hP hD hS hO hl)
theorem jr_lor (F : Fx G X own cc nL d ret) {x y : Int64} (hd : decode cc pc = .ok (.lor, 1))
    (k : Jw G X post (pc + 1) lv (.long (x ||| y) :: rest) w) : Jw G X post pc lv (.long y :: .long x :: rest) w := by
  intro H locs ls hP hD hS hO hl
  exact lv_lor F.1 F.2.1 hd (k H locs ls hP hD hS hO hl)
theorem jr_lxor (F : Fx G X own cc nL d ret) {x y : Int64} (hd : decode cc pc = .ok (.lxor, 1))
    (k : Jw G X post (pc + 1) lv (.long (x ^^^ y) :: rest) w) : Jw G X post pc lv (.long y :: .long x :: rest) w := by
  intro H locs ls hP hD hS hO hl
  exact lv_lxor F.1 F.2.1 hd (k H locs ls hP hD hS hO hl)
theorem jr_top (F : Fx G X own cc nL d ret) {x : Int32} {z : Int} (hz : x = Int32.ofInt z)
    (k : Jw G X post pc lv (iv z :: rest) w) : Jw G X post pc lv (.int x :: rest) w := by
  intro H locs ls hP hD hS hO hl
  subst hz
  exact k H locs ls hP hD hS hO hl
theorem jr_topl (F : Fx G X own cc nL d ret) {x : Int64} {z : Int} (hz : x = Int64.ofInt z)
    (k : Jw G X post pc lv (lq z :: rest) w) : Jw G X post pc lv (.long x :: rest) w := by
  intro H locs ls hP hD hS hO hl
  subst hz
  exact k H locs ls hP hD hS hO hl
theorem jr_icmp_eq (F : Fx G X own cc nL d ret) {a b : Int} {off : Int} {tgt : Nat} (hd : decode cc pc = .ok (.if_icmp .eq off, 3)) (ht : (pc : Int) + off = (tgt : Int))
    (kt : a = b → Jw G X post tgt lv rest w) (kf : ¬ a = b → Jw G X post (pc + 3) lv rest w) (ha : inR a) (hb : inR b) : Jw G X post pc lv (iv b :: iv a :: rest) w := by
  intro H locs ls hP hD hS hO hl
  exact lv_icmp_eq F.1 F.2.1 hd ht (fun h => kt (by exact (iv_eq ha hb).mp h) H locs ls hP hD hS hO hl) (fun h => kf (by exact fun q => h ((iv_eq ha hb).mpr q)) H locs ls hP hD hS hO hl)
theorem jr_if_eq (F : Fx G X own cc nL d ret) {a : Int} {off : Int} {tgt : Nat} (hd : decode cc pc = .ok (.ifCond .eq off, 3)) (ht : (pc : Int) + off = (tgt : Int))
    (kt : a = 0 → Jw G X post tgt lv rest w) (kf : ¬ a = 0 → Jw G X post (pc + 3) lv rest w) (ha : inR a) : Jw G X post pc lv (iv a :: rest) w := by
  intro H locs ls hP hD hS hO hl
  exact lv_if_eq F.1 F.2.1 hd ht (fun h => kt (by rw [iv_zero] at h; exact (iv_eq ha (show inR 0 by omega)).mp h) H locs ls hP hD hS hO hl) (fun h => kf (by rw [iv_zero] at h; exact fun q => h ((iv_eq ha (show inR 0 by omega)).mpr q)) H locs ls hP hD hS hO hl)
theorem jr_icmp_ne (F : Fx G X own cc nL d ret) {a b : Int} {off : Int} {tgt : Nat} (hd : decode cc pc = .ok (.if_icmp .ne off, 3)) (ht : (pc : Int) + off = (tgt : Int))
    (kt : ¬ a = b → Jw G X post tgt lv rest w) (kf : a = b → Jw G X post (pc + 3) lv rest w) (ha : inR a) (hb : inR b) : Jw G X post pc lv (iv b :: iv a :: rest) w := by
  intro H locs ls hP hD hS hO hl
  exact lv_icmp_ne F.1 F.2.1 hd ht (fun h => kt (by exact fun q => h ((iv_eq ha hb).mpr q)) H locs ls hP hD hS hO hl) (fun h => kf (by exact (iv_eq ha hb).mp h) H locs ls hP hD hS hO hl)
theorem jr_if_ne (F : Fx G X own cc nL d ret) {a : Int} {off : Int} {tgt : Nat} (hd : decode cc pc = .ok (.ifCond .ne off, 3)) (ht : (pc : Int) + off = (tgt : Int))
    (kt : ¬ a = 0 → Jw G X post tgt lv rest w) (kf : a = 0 → Jw G X post (pc + 3) lv rest w) (ha : inR a) : Jw G X post pc lv (iv a :: rest) w := by
  intro H locs ls hP hD hS hO hl
  exact lv_if_ne F.1 F.2.1 hd ht (fun h => kt (by rw [iv_zero] at h; exact fun q => h ((iv_eq ha (show inR 0 by omega)).mpr q)) H locs ls hP hD hS hO hl) (fun h => kf (by rw [iv_zero] at h; exact (iv_eq ha (show inR 0 by omega)).mp h) H locs ls hP hD hS hO hl)
theorem jr_icmp_lt (F : Fx G X own cc nL d ret) {a b : Int} {off : Int} {tgt : Nat} (hd : decode cc pc = .ok (.if_icmp .lt off, 3)) (ht : (pc : Int) + off = (tgt : Int))
    (kt : a < b → Jw G X post tgt lv rest w) (kf : b ≤ a → Jw G X post (pc + 3) lv rest w) (ha : inR a) (hb : inR b) : Jw G X post pc lv (iv b :: iv a :: rest) w := by
  intro H locs ls hP hD hS hO hl
  exact lv_icmp_lt F.1 F.2.1 hd ht (fun h => kt (by exact (iv_lt ha hb).mp h) H locs ls hP hD hS hO hl) (fun h => kf (by exact Int.not_lt.mp (fun q => h ((iv_lt ha hb).mpr q))) H locs ls hP hD hS hO hl)
theorem jr_if_lt (F : Fx G X own cc nL d ret) {a : Int} {off : Int} {tgt : Nat} (hd : decode cc pc = .ok (.ifCond .lt off, 3)) (ht : (pc : Int) + off = (tgt : Int))
    (kt : a < 0 → Jw G X post tgt lv rest w) (kf : 0 ≤ a → Jw G X post (pc + 3) lv rest w) (ha : inR a) : Jw G X post pc lv (iv a :: rest) w := by
  intro H locs ls hP hD hS hO hl
  exact lv_if_lt F.1 F.2.1 hd ht (fun h => kt (by rw [iv_zero] at h; exact (iv_lt ha (show inR 0 by omega)).mp h) H locs ls hP hD hS hO hl) (fun h => kf (by rw [iv_zero] at h; exact Int.not_lt.mp (fun q => h ((iv_lt ha (show inR 0 by omega)).mpr q))) H locs ls hP hD hS hO hl)
theorem jr_icmp_ge (F : Fx G X own cc nL d ret) {a b : Int} {off : Int} {tgt : Nat} (hd : decode cc pc = .ok (.if_icmp .ge off, 3)) (ht : (pc : Int) + off = (tgt : Int))
    (kt : b ≤ a → Jw G X post tgt lv rest w) (kf : a < b → Jw G X post (pc + 3) lv rest w) (ha : inR a) (hb : inR b) : Jw G X post pc lv (iv b :: iv a :: rest) w := by
  intro H locs ls hP hD hS hO hl
  exact lv_icmp_ge F.1 F.2.1 hd ht (fun h => kt (by exact (iv_le hb ha).mp h) H locs ls hP hD hS hO hl) (fun h => kf (by exact Int.not_le.mp (fun q => h ((iv_le hb ha).mpr q))) H locs ls hP hD hS hO hl)
theorem jr_if_ge (F : Fx G X own cc nL d ret) {a : Int} {off : Int} {tgt : Nat} (hd : decode cc pc = .ok (.ifCond .ge off, 3)) (ht : (pc : Int) + off = (tgt : Int))
    (kt : 0 ≤ a → Jw G X post tgt lv rest w) (kf : a < 0 → Jw G X post (pc + 3) lv rest w) (ha : inR a) : Jw G X post pc lv (iv a :: rest) w := by
  intro H locs ls hP hD hS hO hl
  exact lv_if_ge F.1 F.2.1 hd ht (fun h => kt (by rw [iv_zero] at h; exact (iv_le (show inR 0 by omega) ha).mp h) H locs ls hP hD hS hO hl) (fun h => kf (by rw [iv_zero] at h; exact Int.not_le.mp (fun q => h ((iv_le (show inR 0 by omega) ha).mpr q))) H locs ls hP hD hS hO hl)
theorem jr_icmp_gt (F : Fx G X own cc nL d ret) {a b : Int} {off : Int} {tgt : Nat} (hd : decode cc pc = .ok (.if_icmp .gt off, 3)) (ht : (pc : Int) + off = (tgt : Int))
    (kt : b < a → Jw G X post tgt lv rest w) (kf : a ≤ b → Jw G X post (pc + 3) lv rest w) (ha : inR a) (hb : inR b) : Jw G X post pc lv (iv b :: iv a :: rest) w := by
  intro H locs ls hP hD hS hO hl
  exact lv_icmp_gt F.1 F.2.1 hd ht (fun h => kt (by exact (iv_lt hb ha).mp h) H locs ls hP hD hS hO hl) (fun h => kf (by exact Int.not_lt.mp (fun q => h ((iv_lt hb ha).mpr q))) H locs ls hP hD hS hO hl)
theorem jr_if_gt (F : Fx G X own cc nL d ret) {a : Int} {off : Int} {tgt : Nat} (hd : decode cc pc = .ok (.ifCond .gt off, 3)) (ht : (pc : Int) + off = (tgt : Int))
    (kt : 0 < a → Jw G X post tgt lv rest w) (kf : a ≤ 0 → Jw G X post (pc + 3) lv rest w) (ha : inR a) : Jw G X post pc lv (iv a :: rest) w := by
  intro H locs ls hP hD hS hO hl
  exact lv_if_gt F.1 F.2.1 hd ht (fun h => kt (by rw [iv_zero] at h; exact (iv_lt (show inR 0 by omega) ha).mp h) H locs ls hP hD hS hO hl) (fun h => kf (by rw [iv_zero] at h; exact Int.not_lt.mp (fun q => h ((iv_lt (show inR 0 by omega) ha).mpr q))) H locs ls hP hD hS hO hl)
theorem jr_icmp_le (F : Fx G X own cc nL d ret) {a b : Int} {off : Int} {tgt : Nat} (hd : decode cc pc = .ok (.if_icmp .le off, 3)) (ht : (pc : Int) + off = (tgt : Int))
    (kt : a ≤ b → Jw G X post tgt lv rest w) (kf : b < a → Jw G X post (pc + 3) lv rest w) (ha : inR a) (hb : inR b) : Jw G X post pc lv (iv b :: iv a :: rest) w := by
  intro H locs ls hP hD hS hO hl
  exact lv_icmp_le F.1 F.2.1 hd ht (fun h => kt (by exact (iv_le ha hb).mp h) H locs ls hP hD hS hO hl) (fun h => kf (by exact Int.not_le.mp (fun q => h ((iv_le ha hb).mpr q))) H locs ls hP hD hS hO hl)
theorem jr_if_le (F : Fx G X own cc nL d ret) {a : Int} {off : Int} {tgt : Nat} (hd : decode cc pc = .ok (.ifCond .le off, 3)) (ht : (pc : Int) + off = (tgt : Int))
    (kt : a ≤ 0 → Jw G X post tgt lv rest w) (kf : 0 < a → Jw G X post (pc + 3) lv rest w) (ha : inR a) : Jw G X post pc lv (iv a :: rest) w := by
  intro H locs ls hP hD hS hO hl
  exact lv_if_le F.1 F.2.1 hd ht (fun h => kt (by rw [iv_zero] at h; exact (iv_le ha (show inR 0 by omega)).mp h) H locs ls hP hD hS hO hl) (fun h => kf (by rw [iv_zero] at h; exact Int.not_le.mp (fun q => h ((iv_le ha (show inR 0 by omega)).mpr q))) H locs ls hP hD hS hO hl)
/-- a truth as a number -/
noncomputable def bi (P : Prop) : Int := @ite _ P (Classical.propDecidable P) 1 0
theorem bi_t {P : Prop} (h : P) : bi P = 1 := by unfold bi; rw [if_pos h]
theorem bi_f {P : Prop} (h : ¬ P) : bi P = 0 := by unfold bi; rw [if_neg h]
theorem bi_c {P Q : Prop} (h : P ↔ Q) : bi P = bi Q := by rw [propext h]
theorem bi_01 (P : Prop) : 0 ≤ bi P ∧ bi P ≤ 1 := (Classical.em P).elim (fun h => by rw [bi_t h]; omega) (fun h => by rw [bi_f h]; omega)
theorem bi_eq1 {P : Prop} : bi P = 1 ↔ P := ⟨fun h => Classical.byContradiction fun q => by rw [bi_f q] at h; omega, bi_t⟩
theorem bi_eq0 {P : Prop} : bi P = 0 ↔ ¬ P := ⟨fun h q => by rw [bi_t q] at h; omega, bi_f⟩
theorem jr_ifeq_b (F : Fx G X own cc nL d ret) {B : Prop} {off : Int} {tgt : Nat} (hd : decode cc pc = .ok (.ifCond .eq off, 3)) (ht : (pc : Int) + off = (tgt : Int))
    (kt : ¬ B → Jw G X post tgt lv rest w) (kf : B → Jw G X post (pc + 3) lv rest w) : Jw G X post pc lv (iv (bi B) :: rest) w :=
  jr_if_eq F hd ht (fun h => kt (bi_eq0.mp h)) (fun h => kf (Classical.byContradiction fun q => h (bi_f q))) (by have := bi_01 B; omega)
theorem jr_ifne_b (F : Fx G X own cc nL d ret) {B : Prop} {off : Int} {tgt : Nat} (hd : decode cc pc = .ok (.ifCond .ne off, 3)) (ht : (pc : Int) + off = (tgt : Int))
    (kt : B → Jw G X post tgt lv rest w) (kf : ¬ B → Jw G X post (pc + 3) lv rest w) : Jw G X post pc lv (iv (bi B) :: rest) w :=
  jr_if_ne F hd ht (fun h => kt (Classical.byContradiction fun q => h (bi_f q))) (fun h => kf (bi_eq0.mp h)) (by have := bi_01 B; omega)
theorem jr_goto (F : Fx G X own cc nL d ret) {off : Int} {tgt : Nat} (hd : decode cc pc = .ok (.goto off, 3)) (ht : (pc : Int) + off = (tgt : Int))
    (k : Jw G X post tgt lv rest w) : Jw G X post pc lv rest w := by
  intro H locs ls hP hD hS hO hl
  exact lv_goto F.1 F.2.1 hd ht (k H locs ls hP hD hS hO hl)
theorem jr_tsOut (F : Fx G X own cc nL d ret) {a dflt lo hi : Int} {offs : Array Int} {len tgt : Nat} (hd : decode cc pc = .ok (.tableswitch dflt lo hi offs, len)) (h : a < lo ∨ hi < a) (ht : (pc : Int) + dflt = (tgt : Int)) (ha : inR a)
    (k : Jw G X post tgt lv rest w) : Jw G X post pc lv (iv a :: rest) w := by
  intro H locs ls hP hD hS hO hl
  exact lv_tableOut F.1 F.2.1 hd (by rw [iv_toInt ha]; exact h) ht (k H locs ls hP hD hS hO hl)
theorem jr_tsIn (F : Fx G X own cc nL d ret) {a dflt lo hi off : Int} {offs : Array Int} {len tgt : Nat} (v : Int) (hd : decode cc pc = .ok (.tableswitch dflt lo hi offs, len)) (h : a = v) (h1 : lo ≤ v) (h2 : v ≤ hi) (ho : offs[(v - lo).toNat]? = some off) (ht : (pc : Int) + off = (tgt : Int)) (ha : inR v)
    (k : Jw G X post tgt lv rest w) : Jw G X post pc lv (iv a :: rest) w := by
  intro H locs ls hP hD hS hO hl
  subst h
  exact lv_tableIn F.1 F.2.1 hd (by rw [iv_toInt ha]; omega) (by rw [iv_toInt ha]; omega) (by rw [iv_toInt ha]; exact ho) ht (k H locs ls hP hD hS hO hl)
theorem jr_look (F : Fx G X own cc nL d ret) {a dflt off : Int} {ps : Array (Int × Int)} {len tgt : Nat} (hd : decode cc pc = .ok (.lookupswitch dflt ps, len)) (hp : (ps.toList.zip (ps.toList.drop 1)).all (fun (a, next) => a.1 < next.1) = true) (ho : Op.lookupswitch.offset ps.toList dflt a = off) (ht : (pc : Int) + off = (tgt : Int)) (ha : inR a)
    (k : Jw G X post tgt lv rest w) : Jw G X post pc lv (iv a :: rest) w := by
  intro H locs ls hP hD hS hO hl
  exact lv_lookup F.1 F.2.1 hd hp (by rw [iv_toInt ha]; exact ho) ht (k H locs ls hP hD hS hO hl)
theorem asc_at {ls : Array Slot} {nL : Nat} {l : List (Option Value)} {i : Nat} {v : Value} (h : lg l i = some v) : ∃ k : Nat, (asc 0 l)[k]? = some (i, v) := List.getElem?_of_mem ((asc_mem l 0 i v).mpr ⟨i, by omega, h⟩)
theorem jr_iinc (F : Fx G X own cc nL d ret) {i : Nat} {n a : Int} (hd : decode cc pc = .ok (.iinc i n, 3)) (hi : lg lv i = some (iv a)) (hn : i < nL) (ho : okst lv i = true)
    (k : Jw G X post (pc + 3) (lst lv i (some (iv (a + n)))) rest w) : Jw G X post pc lv rest w := by
  intro H locs ls hP hD hS hO hl
  obtain ⟨q, hq⟩ := asc_at (ls := ls) (nL := nL) hi
  exact lv_iinc (v := Int32.ofInt (a + n)) F.1 F.2.1 hd hl.has hq (by rw [Int32.ofInt_add]) (by rw [F.2.2.1]; exact hn) rfl (fun ls' h' => k H locs ls' hP hD hS hO (lh_st1 ho h'))
theorem jr_i2l (F : Fx G X own cc nL d ret) {a : Int} (hd : decode cc pc = .ok (.i2l, 1)) (ha : inR a)
    (k : Jw G X post (pc + 1) lv (lq a :: rest) w) : Jw G X post pc lv (iv a :: rest) w := by
  intro H locs ls hP hD hS hO hl
  exact lv_i2l F.1 F.2.1 hd (Int32.toInt64_ofInt (by rw [iv_min]; exact ha.1) (by rw [iv_max]; exact ha.2)) (k H locs ls hP hD hS hO hl)
theorem jr_l2i (F : Fx G X own cc nL d ret) {a : Int} (hd : decode cc pc = .ok (.l2i, 1))
    (k : Jw G X post (pc + 1) lv (iv a :: rest) w) : Jw G X post pc lv (lq a :: rest) w := by
  intro H locs ls hP hD hS hO hl
  exact lv_l2i F.1 F.2.1 hd Int64.toInt32_ofInt (k H locs ls hP hD hS hO hl)
theorem jr_i2b (F : Fx G X own cc nL d ret) {a : Int} (hd : decode cc pc = .ok (.i2b, 1)) (ha : -128 ≤ a ∧ a ≤ 127)
    (k : Jw G X post (pc + 1) lv (iv a :: rest) w) : Jw G X post pc lv (iv a :: rest) w := by
  intro H locs ls hP hD hS hO hl
  exact lv_i2b F.1 F.2.1 hd (by rw [Int32.toInt8_ofInt]; exact Int32.toInt_inj.mp (by rw [Int8.toInt_toInt32, Int8.toInt_ofInt_of_le (by omega) (by omega), iv_toInt (by omega)])) (k H locs ls hP hD hS hO hl)
theorem jr_ishl (F : Fx G X own cc nL d ret) {x y : Int32} (hd : decode cc pc = .ok (.ishl, 1))
    (k : Jw G X post (pc + 1) lv (.int (x <<< (y &&& 31)) :: rest) w) : Jw G X post pc lv (.int y :: .int x :: rest) w := by
  intro H locs ls hP hD hS hO hl
  exact lv_ishl F.1 F.2.1 hd (k H locs ls hP hD hS hO hl)
theorem jr_ishr (F : Fx G X own cc nL d ret) {x y : Int32} (hd : decode cc pc = .ok (.ishr, 1))
    (k : Jw G X post (pc + 1) lv (.int (x >>> (y &&& 31)) :: rest) w) : Jw G X post pc lv (.int y :: .int x :: rest) w := by
  intro H locs ls hP hD hS hO hl
  exact lv_ishr F.1 F.2.1 hd (k H locs ls hP hD hS hO hl)
theorem jr_iushr (F : Fx G X own cc nL d ret) {x y : Int32} (hd : decode cc pc = .ok (.iushr, 1))
    (k : Jw G X post (pc + 1) lv (.int ((x.toUInt32 >>> (y.toUInt32 &&& Int32.toUInt32 31)).toInt32) :: rest) w) : Jw G X post pc lv (.int y :: .int x :: rest) w := by
  intro H locs ls hP hD hS hO hl
  exact lv_iushr F.1 F.2.1 hd rfl (k H locs ls hP hD hS hO hl)
theorem jr_lshl (F : Fx G X own cc nL d ret) {x : Int64} {y : Int32} (hd : decode cc pc = .ok (.lshl, 1))
    (k : Jw G X post (pc + 1) lv (.long (x <<< (y.toInt64 &&& 63)) :: rest) w) : Jw G X post pc lv (.int y :: .long x :: rest) w := by
  intro H locs ls hP hD hS hO hl
  exact lv_lshl F.1 F.2.1 hd rfl (k H locs ls hP hD hS hO hl)
theorem jr_lshr (F : Fx G X own cc nL d ret) {x : Int64} {y : Int32} (hd : decode cc pc = .ok (.lshr, 1))
    (k : Jw G X post (pc + 1) lv (.long (x >>> (y.toInt64 &&& 63)) :: rest) w) : Jw G X post pc lv (.int y :: .long x :: rest) w := by
  intro H locs ls hP hD hS hO hl
  exact lv_lshr F.1 F.2.1 hd rfl (k H locs ls hP hD hS hO hl)
theorem jr_lushr (F : Fx G X own cc nL d ret) {x : Int64} {y : Int32} (hd : decode cc pc = .ok (.lushr, 1))
    (k : Jw G X post (pc + 1) lv (.long ((x.toUInt64 >>> (y.toInt64.toUInt64 &&& Int64.toUInt64 63)).toInt64) :: rest) w) : Jw G X post pc lv (.int y :: .long x :: rest) w := by
  intro H locs ls hP hD hS hO hl
  exact lv_lushr F.1 F.2.1 hd rfl (k H locs ls hP hD hS hO hl)
theorem jr_irem (F : Fx G X own cc nL d ret) {a b : Int} (hd : decode cc pc = .ok (.irem, 1)) (ha : inR a) (h0 : 0 ≤ a) (hb : 0 < b) (hb2 : inR b)
    (k : Jw G X post (pc + 1) lv (iv (a % b) :: rest) w) : Jw G X post pc lv (iv b :: iv a :: rest) w := by
  intro H locs ls hP hD hS hO hl
  have h := k H locs ls hP hD hS hO hl
  have e : Int32.ofInt a - Int32.ofInt a / Int32.ofInt b * Int32.ofInt b = Int32.ofInt (a % b) := by rw [← iv_tdiv ha hb2, Int.tdiv_eq_ediv_of_nonneg h0, ← Int32.ofInt_mul, ← Int32.ofInt_sub, Int.emod_def, Int.mul_comm b]
  rw [iv, ← e] at h
  exact lv_irem F.1 F.2.1 hd (by rw [iv_zero, iv_eq hb2 (by omega)]; omega) h
theorem jr_idiv (F : Fx G X own cc nL d ret) {a b : Int} (hd : decode cc pc = .ok (.idiv, 1)) (ha : inR a) (h0 : 0 ≤ a) (hb : 0 < b) (hb2 : inR b)
    (k : Jw G X post (pc + 1) lv (iv (a / b) :: rest) w) : Jw G X post pc lv (iv b :: iv a :: rest) w := by
  intro H locs ls hP hD hS hO hl
  have h := k H locs ls hP hD hS hO hl
  have e : Int32.ofInt a / Int32.ofInt b = Int32.ofInt (a / b) := by rw [← iv_tdiv ha hb2, Int.tdiv_eq_ediv_of_nonneg h0]
  rw [iv, ← e] at h
  exact lv_idiv F.1 F.2.1 hd (by rw [iv_zero, iv_eq hb2 (by omega)]; omega) h
theorem jr_dup (F : Fx G X own cc nL d ret) {v : Value} (hd : decode cc pc = .ok (.dup, 1)) (hc : v.category = 1)
    (k : Jw G X post (pc + 1) lv (v :: v :: rest) w) : Jw G X post pc lv (v :: rest) w := by
  intro H locs ls hP hD hS hO hl
  exact lv_dup F.1 F.2.1 hd hc (k H locs ls hP hD hS hO hl)
theorem jr_pop (F : Fx G X own cc nL d ret) {v : Value} (hd : decode cc pc = .ok (.pop, 1)) (hc : v.category = 1)
    (k : Jw G X post (pc + 1) lv rest w) : Jw G X post pc lv (v :: rest) w := by
  intro H locs ls hP hD hS hO hl
  exact lv_pop F.1 F.2.1 hd hc (k H locs ls hP hD hS hO hl)
theorem jr_dup_x1 (F : Fx G X own cc nL d ret) {u v : Value} (hd : decode cc pc = .ok (.dup_x1, 1)) (hu : u.category = 1) (hv : v.category = 1)
    (k : Jw G X post (pc + 1) lv (u :: v :: u :: rest) w) : Jw G X post pc lv (u :: v :: rest) w := by
  intro H locs ls hP hD hS hO hl
  exact lv_dup_x1 F.1 F.2.1 hd hu hv (k H locs ls hP hD hS hO hl)
theorem jr_dup2 (F : Fx G X own cc nL d ret) {u v : Value} (hd : decode cc pc = .ok (.dup2, 1)) (hu : u.category = 1) (hv : v.category = 1)
    (k : Jw G X post (pc + 1) lv (u :: v :: u :: v :: rest) w) : Jw G X post pc lv (u :: v :: rest) w := by
  intro H locs ls hP hD hS hO hl
  exact lv_dup2_11 F.1 F.2.1 hd hu hv (k H locs ls hP hD hS hO hl)
theorem jr_ifnull (F : Fx G X own cc nL d ret) {x : Nat} {off : Int} (hd : decode cc pc = .ok (.ifnull off, 3))
    (k : Jw G X post (pc + 3) lv rest w) : Jw G X post pc lv (.ref x :: rest) w := by
  intro H locs ls hP hD hS hO hl
  exact lv_ifnull F.1 F.2.1 hd (k H locs ls hP hD hS hO hl)
end JR
end
section
/-! what the tables say of a field that an instruction names: own: the class of the method, i: the entry of its pool, ci: the class of the object, j: the field's place -/
def Fg (own : String) (i ci j : Nat) : Prop := ∃ (C : String) (T : u_T) (N : Nat), vwCl[ci]? = some (C, T, N) ∧ j < N ∧ (∀ w ∈ u_ws C T N, w ∈ tb0) ∧ Cond.fieldLink own i (T j).1 (T j).2.1 (T j).2.2.1 ∈ tb0
def Fp (own : String) (i ci j : Nat) (ty : FieldType) : Prop := ∃ (C : String) (T : u_T) (N : Nat) (ty0 : Nat → FieldType), vwCl[ci]? = some (C, T, N) ∧ j < N ∧ (∀ w ∈ u_ws C T N, w ∈ tb0) ∧ Cond.fieldLink own i (T j).1 (T j).2.1 (T j).2.2.1 ∈ tb0 ∧
  (∀ k, k < N → parseFieldDescriptor (T k).2.2.1 = some (ty0 k)) ∧ (∀ a, a < N → ∀ b, b < N → a ≠ b → (T a).2.1 ≠ (T b).2.1) ∧ (T j).2.2.2 = false ∧ parseFieldDescriptor (T j).2.2.1 = some ty
theorem nar_bool {a : Int} (h : 0 ≤ a ∧ a ≤ 1) : narrow .boolean (.int (Int32.ofInt a)) = .int (Int32.ofInt a) ∧ fits .boolean (.int (Int32.ofInt a)) = true := by
  rcases (show a = 0 ∨ a = 1 by omega) with rfl | rfl <;> exact ⟨by decide, by decide⟩
theorem iv_nat (n : Nat) : Int32.ofNat n = Int32.ofInt (n : Int) := by rw [Int32.ofInt_eq_ofNat]
theorem upd_arr {w : Wd} {k : Nat} {i v : Int} (h0 : 0 ≤ i) : upd (fun j => Int32.ofInt (w k (j : Int))) i.toNat (Int32.ofInt v) = fun j : Nat => Int32.ofInt (up w k i v k (j : Int)) := by
  funext j
  unfold upd up
  by_cases h : j = i.toNat
  · have : (j : Int) = i := by omega
    rw [if_pos h, if_pos ⟨rfl, this⟩]
  · have : ¬ (j : Int) = i := by omega
    rw [if_neg h, if_neg (fun q => this q.2)]
theorem fvs_set {G : Gc} {w : Wd} {k j c : Nat} {v : Int} {x : Value} : ∀ {l : List Nat} {b : Nat}, l[j]? = some c → fv G (up w k ((b + j : Nat) : Int) v) k (b + j) c = x → (fvs G w k b l).set j x = fvs G (up w k ((b + j : Nat) : Int) v) k b l
  | [], b, h, _ => by simp at h
  | u :: t, b, h, hx => by
    have tl : ∀ (l : List Nat) (m : Nat), b + j < m → fvs G (up w k ((b + j : Nat) : Int) v) k m l = fvs G w k m l := by
      intro l
      induction l with
      | nil => intro m _; rfl
      | cons q l ih =>
        intro m hm
        simp only [fvs, ih (m + 1) (by omega)]
        congr 1
        unfold fv
        simp only [up_ne (w := w) (k := k) (k' := k) (i := ((b + j : Nat) : Int)) (v := v) (j := (m : Int)) (by omega)]
    cases j with
    | zero =>
      simp only [List.getElem?_cons_zero, Option.some.injEq] at h
      subst h
      simp only [fvs, List.set_cons_zero]
      rw [tl t (b + 1) (by omega)]
      rw [show b + 0 = b from rfl] at hx
      rw [show b + 0 = b from rfl, hx]
    | succ j =>
      simp only [List.getElem?_cons_succ] at h
      simp only [fvs, List.set_cons_succ]
      have h1 : fv G (up w k ((b + (j + 1) : Nat) : Int) v) k b u = fv G w k b u := by
        unfold fv
        simp only [up_ne (w := w) (k := k) (k' := k) (i := ((b + (j + 1) : Nat) : Int)) (v := v) (j := (b : Int)) (by omega)]
      rw [h1]
      have e : b + (j + 1) = (b + 1) + j := by omega
      rw [e] at hx ⊢
      rw [fvs_set (b := b + 1) h hx]
section JH
variable {G : Gc} {X : Xc} {own : String} {cc : ByteArray} {nL d : Nat} {ret : Option FieldType} {post : Option Value → Wd → Prop} {pc : Nat} {lv : List (Option Value)} {rest : List Value} {w : Wd}
theorem jr_getV (F : Fx G X own cc nL d ret) {i k ci j c : Nat} {fs : List Nat} (hd : decode cc pc = .ok (.getfield i, 3)) (L : Fg own i ci j) (hk : k < gn G) (hs : gS G k = .inr (ci, fs)) (hc : fs[j]? = some c)
    (kk : Jw G X post (pc + 3) lv (fv G w k j c :: rest) w) : Jw G X post pc lv (.ref (ga G k) :: rest) w := by
  intro H locs ls hP hD hS hO hl
  obtain ⟨C, T, N, l1, l2, l3, l4⟩ := L
  exact va_get F.1 F.2.1 F.2.2.2.2.1 l3 F.2.2.2.1 F.2.2.2.2.2.1 hP k (by rw [cels_get hk, cel_O hs]) l1 j l2 (F.2.2.2.2.1 _ l4) (fun _ h => h) (by rw [fvs_get, hc]; simp) hd (kk H locs ls hP hD hS hO hl)
theorem jr_getI (F : Fx G X own cc nL d ret) {i k ci j : Nat} {fs : List Nat} (hd : decode cc pc = .ok (.getfield i, 3)) (L : Fg own i ci j) (hk : k < gn G) (hs : gS G k = .inr (ci, fs)) (hc : fs[j]? = some 0)
    (kk : inR (w k (j : Nat)) → Jw G X post (pc + 3) lv (iv (w k (j : Nat)) :: rest) w) : Jw G X post pc lv (.ref (ga G k) :: rest) w := by
  intro H locs ls hP hD hS hO hl
  exact jr_getV F hd L hk hs hc (kk (hO.2 k ci fs hs j 0 hc)) H locs ls hP hD hS hO hl
theorem jr_getZ (F : Fx G X own cc nL d ret) {i k ci j : Nat} {fs : List Nat} (hd : decode cc pc = .ok (.getfield i, 3)) (L : Fg own i ci j) (hk : k < gn G) (hs : gS G k = .inr (ci, fs)) (hc : fs[j]? = some 2)
    (kk : (0 ≤ w k (j : Nat) ∧ w k (j : Nat) ≤ 1) → Jw G X post (pc + 3) lv (iv (w k (j : Nat)) :: rest) w) : Jw G X post pc lv (.ref (ga G k) :: rest) w := by
  intro H locs ls hP hD hS hO hl
  exact jr_getV F hd L hk hs hc (kk (hO.2 k ci fs hs j 2 hc)) H locs ls hP hD hS hO hl
theorem jr_getL (F : Fx G X own cc nL d ret) {i k ci j : Nat} {fs : List Nat} (hd : decode cc pc = .ok (.getfield i, 3)) (L : Fg own i ci j) (hk : k < gn G) (hs : gS G k = .inr (ci, fs)) (hc : fs[j]? = some 1)
    (kk : inL (w k (j : Nat)) → Jw G X post (pc + 3) lv (lq (w k (j : Nat)) :: rest) w) : Jw G X post pc lv (.ref (ga G k) :: rest) w := by
  intro H locs ls hP hD hS hO hl
  exact jr_getV F hd L hk hs hc (kk (hO.2 k ci fs hs j 1 hc)) H locs ls hP hD hS hO hl
theorem jr_getR (F : Fx G X own cc nL d ret) {i k ci j t : Nat} {fs : List Nat} (hd : decode cc pc = .ok (.getfield i, 3)) (L : Fg own i ci j) (hk : k < gn G) (hs : gS G k = .inr (ci, fs)) (hc : fs[j]? = some (t + 3))
    (kk : Jw G X post (pc + 3) lv (.ref (ga G t) :: rest) w) : Jw G X post pc lv (.ref (ga G k) :: rest) w := jr_getV F hd L hk hs hc kk
theorem jr_putV (F : Fx G X own cc nL d ret) {i k ci j c : Nat} {fs : List Nat} {v : Int} {x : Value} {ty : FieldType} (hd : decode cc pc = .ok (.putfield i, 3)) (L : Fp own i ci j ty) (hk : k < gn G) (hs : gS G k = .inr (ci, fs)) (hc : fs[j]? = some c)
    (hx : fv G (up w k (j : Nat) v) k j c = x) (hn : narrow ty x = x) (hf : fits ty x = true) (hv : rF c v) (kk : Jw G X post (pc + 3) lv rest (up w k (j : Nat) v)) : Jw G X post pc lv (x :: .ref (ga G k) :: rest) w := by
  intro H locs ls hP hD hS hO hl
  obtain ⟨C, T, N, ty0, l1, l2, l3, l4, l5, l6, l7, l8⟩ := L
  have e : (cels G w).set k (ga G k, .inr (ci, (fvs G w k 0 fs).set j x)) = cels G (up w k (j : Nat) v) := cels_upd (fun k' h => up_cell h) (by
    rw [cel_O hs]
    have := fvs_set (G := G) (w := w) (k := k) (v := v) (b := 0) hc (x := x) (by rw [Nat.zero_add]; exact hx)
    rw [Nat.zero_add] at this
    rw [this])
  refine va_put F.1 F.2.1 F.2.2.2.2.1 l3 ty0 l5 l6 F.2.2.2.1 F.2.2.2.2.2.1 hP hD hS k (by rw [cels_get hk, cel_O hs]) l1 j l2 (F.2.2.2.2.1 _ l4) (fun _ h => h) l7 l8 hn hf (by rw [fvs_len]; exact (List.getElem?_eq_some_iff.mp hc).1) hd (fun H1 locs1 hP1 hD1 hS1 => ?_)
  rw [e] at hP1 hD1
  exact kk H1 locs1 ls hP1 hD1 hS1 (hO.upF hs hc hv) hl
theorem jr_putI (F : Fx G X own cc nL d ret) {i k ci j : Nat} {fs : List Nat} {v : Int} (hd : decode cc pc = .ok (.putfield i, 3)) (L : Fp own i ci j .int) (hk : k < gn G) (hs : gS G k = .inr (ci, fs)) (hc : fs[j]? = some 0)
    (hv : inR v) (kk : Jw G X post (pc + 3) lv rest (up w k (j : Nat) v)) : Jw G X post pc lv (iv v :: .ref (ga G k) :: rest) w :=
  jr_putV F hd L hk hs hc (by show iv (up w k (j : Nat) v k (j : Nat)) = iv v; rw [up_self]) rfl rfl hv kk
theorem jr_putZ (F : Fx G X own cc nL d ret) {i k ci j : Nat} {fs : List Nat} {v : Int} (hd : decode cc pc = .ok (.putfield i, 3)) (L : Fp own i ci j .boolean) (hk : k < gn G) (hs : gS G k = .inr (ci, fs)) (hc : fs[j]? = some 2)
    (hv : 0 ≤ v ∧ v ≤ 1) (kk : Jw G X post (pc + 3) lv rest (up w k (j : Nat) v)) : Jw G X post pc lv (iv v :: .ref (ga G k) :: rest) w :=
  jr_putV F hd L hk hs hc (by show iv (up w k (j : Nat) v k (j : Nat)) = iv v; rw [up_self]) (nar_bool hv).1 (nar_bool hv).2 hv kk
theorem jr_putL (F : Fx G X own cc nL d ret) {i k ci j : Nat} {fs : List Nat} {v : Int} (hd : decode cc pc = .ok (.putfield i, 3)) (L : Fp own i ci j .long) (hk : k < gn G) (hs : gS G k = .inr (ci, fs)) (hc : fs[j]? = some 1)
    (hv : inL v) (kk : Jw G X post (pc + 3) lv rest (up w k (j : Nat) v)) : Jw G X post pc lv (lq v :: .ref (ga G k) :: rest) w :=
  jr_putV F hd L hk hs hc (by show lq (up w k (j : Nat) v k (j : Nat)) = lq v; rw [up_self]) rfl rfl hv kk
theorem jr_iald (F : Fx G X own cc nL d ret) {k n : Nat} {a : Int} (hd : decode cc pc = .ok (.iaload, 1)) (hk : k < gn G) (hs : gS G k = .inl (0, n)) (hn : n < 2147483648)
    (kk : inR (w k a) → Jw G X post (pc + 1) lv (iv (w k a) :: rest) w) (h0 : 0 ≤ a) (h1 : a < n) : Jw G X post pc lv (iv a :: .ref (ga G k) :: rest) w := by
  intro H locs ls hP hD hS hO hl
  have ha : inR a := by omega
  have h := kk (hO.1 k 0 n hs a h0 h1) H locs ls hP hD hS hO hl
  refine va_iald F.1 F.2.1 F.2.2.2.2.2.1 hP k 0 (by rw [cels_get hk, cel_A hs]) rfl (iv_in ha h0 h1) hd ?_
  rw [iv_clamp ha, Int.toNat_of_nonneg h0]
  exact h
theorem jr_bald (F : Fx G X own cc nL d ret) {k n : Nat} {a : Int} (hd : decode cc pc = .ok (.baload, 1)) (hk : k < gn G) (hs : gS G k = .inl (1, n)) (hn : n < 2147483648)
    (kk : (-128 ≤ w k a ∧ w k a ≤ 127) → Jw G X post (pc + 1) lv (iv (w k a) :: rest) w) (h0 : 0 ≤ a) (h1 : a < n) : Jw G X post pc lv (iv a :: .ref (ga G k) :: rest) w := by
  intro H locs ls hP hD hS hO hl
  have ha : inR a := by omega
  have h := kk (hO.1 k 1 n hs a h0 h1) H locs ls hP hD hS hO hl
  refine va_bald F.1 F.2.1 F.2.2.2.2.2.1 hP k 1 (by rw [cels_get hk, cel_A hs]) rfl (iv_in ha h0 h1) hd ?_
  rw [iv_clamp ha, Int.toNat_of_nonneg h0]
  exact h
theorem jr_zald (F : Fx G X own cc nL d ret) {k n : Nat} {a : Int} (hd : decode cc pc = .ok (.baload, 1)) (hk : k < gn G) (hs : gS G k = .inl (2, n)) (hn : n < 2147483648)
    (kk : (0 ≤ w k a ∧ w k a ≤ 1) → Jw G X post (pc + 1) lv (iv (w k a) :: rest) w) (h0 : 0 ≤ a) (h1 : a < n) : Jw G X post pc lv (iv a :: .ref (ga G k) :: rest) w := by
  intro H locs ls hP hD hS hO hl
  have ha : inR a := by omega
  have h := kk (hO.1 k 2 n hs a h0 h1) H locs ls hP hD hS hO hl
  refine va_zald F.1 F.2.1 F.2.2.2.2.2.1 hP k 2 (by rw [cels_get hk, cel_A hs]) rfl (iv_in ha h0 h1) hd ?_
  rw [iv_clamp ha, Int.toNat_of_nonneg h0]
  exact h
theorem cels_upA {k t n : Nat} {a v : Int} (hs : gS G k = .inl (t, n)) (h0 : 0 ≤ a) : (cels G w).set k (ga G k, .inl (gt G t, n, .inl (upd (fun j => Int32.ofInt (w k (j : Int))) a.toNat (Int32.ofInt v)))) = cels G (up w k a v) :=
  cels_upd (fun k' h => up_cell h) (by rw [cel_A hs, upd_arr h0])
theorem jr_iast (F : Fx G X own cc nL d ret) {k n : Nat} {a v : Int} (hd : decode cc pc = .ok (.iastore, 1)) (hk : k < gn G) (hs : gS G k = .inl (0, n)) (hn : n < 2147483648)
    (kk : Jw G X post (pc + 1) lv rest (up w k a v)) (h0 : 0 ≤ a) (h1 : a < n) (hv : inR v) : Jw G X post pc lv (iv v :: iv a :: .ref (ga G k) :: rest) w := by
  intro H locs ls hP hD hS hO hl
  have ha : inR a := by omega
  refine va_iast F.1 F.2.1 F.2.2.2.2.2.1 hP hD hS k 0 (by rw [cels_get hk, cel_A hs]) rfl (iv_in ha h0 h1) hd (fun H1 locs1 hP1 hD1 hS1 => ?_)
  rw [iv_clamp ha, cels_upA hs h0] at hP1 hD1
  exact kk H1 locs1 ls hP1 hD1 hS1 (hO.upA hs hv) hl
theorem nar_byte {v : Int} (h : -128 ≤ v ∧ v ≤ 127) : vp_nar .byte (Int32.ofInt v) = Int32.ofInt v := by
  rw [vp_nar_byte, Int32.toInt8_ofInt]
  exact Int32.toInt_inj.mp (by rw [Int8.toInt_toInt32, Int8.toInt_ofInt_of_le (by omega) (by omega), iv_toInt (by omega)])
theorem nar_bool2 {v : Int} (h : 0 ≤ v ∧ v ≤ 1) : vp_nar .boolean (Int32.ofInt v) = Int32.ofInt v := by
  rcases (show v = 0 ∨ v = 1 by omega) with rfl | rfl <;> decide
theorem jr_bast (F : Fx G X own cc nL d ret) {k n : Nat} {a v : Int} (hd : decode cc pc = .ok (.bastore, 1)) (hk : k < gn G) (hs : gS G k = .inl (1, n)) (hn : n < 2147483648)
    (kk : Jw G X post (pc + 1) lv rest (up w k a v)) (h0 : 0 ≤ a) (h1 : a < n) (hv : -128 ≤ v ∧ v ≤ 127) : Jw G X post pc lv (iv v :: iv a :: .ref (ga G k) :: rest) w := by
  intro H locs ls hP hD hS hO hl
  have ha : inR a := by omega
  refine va_bast F.1 F.2.1 F.2.2.2.2.2.1 hP hD hS k 1 (by rw [cels_get hk, cel_A hs]) rfl (iv_in ha h0 h1) hd (fun H1 locs1 hP1 hD1 hS1 => ?_)
  rw [nar_byte hv, iv_clamp ha, cels_upA hs h0] at hP1 hD1
  exact kk H1 locs1 ls hP1 hD1 hS1 (hO.upA hs hv) hl
theorem jr_zast (F : Fx G X own cc nL d ret) {k n : Nat} {a v : Int} (hd : decode cc pc = .ok (.bastore, 1)) (hk : k < gn G) (hs : gS G k = .inl (2, n)) (hn : n < 2147483648)
    (kk : Jw G X post (pc + 1) lv rest (up w k a v)) (h0 : 0 ≤ a) (h1 : a < n) (hv : 0 ≤ v ∧ v ≤ 1) : Jw G X post pc lv (iv v :: iv a :: .ref (ga G k) :: rest) w := by
  intro H locs ls hP hD hS hO hl
  have ha : inR a := by omega
  refine va_zast F.1 F.2.1 F.2.2.2.2.2.1 hP hD hS k 2 (by rw [cels_get hk, cel_A hs]) rfl (iv_in ha h0 h1) hd (fun H1 locs1 hP1 hD1 hS1 => ?_)
  rw [nar_bool2 hv, iv_clamp ha, cels_upA hs h0] at hP1 hD1
  exact kk H1 locs1 ls hP1 hD1 hS1 (hO.upA hs hv) hl
theorem jr_alen (F : Fx G X own cc nL d ret) {k n : Nat} (hd : decode cc pc = .ok (.arraylength, 1)) (hk : k < gn G) (hs : gS G k = .inl (0, n))
    (kk : Jw G X post (pc + 1) lv (iv (n : Int) :: rest) w) : Jw G X post pc lv (.ref (ga G k) :: rest) w := by
  intro H locs ls hP hD hS hO hl
  exact va_alen F.1 F.2.1 F.2.2.2.2.2.1 hP k 0 (by rw [cels_get hk, cel_A hs]) rfl (iv_nat n) hd (kk H locs ls hP hD hS hO hl)
/-! the ends -/
theorem jr_end (F : Fx G X own cc nL d ret) {v : Option Value} {H : Heap} {locs : List Loc} (hp : post v w) (hP : va_P (gD G) vwCl (cels G w) H) (hD : va_D (xA X) (cels G w)) (hS : va_S (xA X) (xs X).heap H locs) (hO : okW G w) (t : State) (ht : t.heap = H) (hW : (xs X).WarmedH t.vm) : Qg G post (xA X) (xa X) (xs X) (.returned v) t :=
  ⟨⟨v, w, rfl, hp, hO, by rw [ht]; exact hP, va_K.moved hW.alike F.2.2.2.2.2.1, hD⟩, hS.F ht⟩
theorem jr_iret (F : Fx G X own cc nL d (some .int)) {x : Int32} (hd : decode cc pc = .ok (.ireturn, 1)) (hp : post (some (.int x)) w) : Jw G X post pc lv [.int x] w := by
  intro H locs ls hP hD hS hO hl
  exact W.iret (hlocks := F.2.2.2.2.2.2.2.2.1) F.1 F.2.1 F.2.2.2.2.2.2.2.1 (fun t ht hW => jr_end F hp hP hD hS hO t ht hW) hS.2.2 hd
theorem jr_zret (F : Fx G X own cc nL d (some .boolean)) {a : Int} (hd : decode cc pc = .ok (.ireturn, 1)) (hp : post (some (iv a)) w) (ha : 0 ≤ a ∧ a ≤ 1) : Jw G X post pc lv [iv a] w := by
  intro H locs ls hP hD hS hO hl
  exact W.zret (hlocks := F.2.2.2.2.2.2.2.2.1) F.1 F.2.1 F.2.2.2.2.2.2.2.1 (nar_bool ha).1 (fun t ht hW => jr_end F hp hP hD hS hO t ht hW) hS.2.2 hd
theorem jr_lret (F : Fx G X own cc nL d (some .long)) {x : Int64} (hd : decode cc pc = .ok (.lreturn, 1)) (hp : post (some (.long x)) w) : Jw G X post pc lv [.long x] w := by
  intro H locs ls hP hD hS hO hl
  exact W.lret (hlocks := F.2.2.2.2.2.2.2.2.1) F.1 F.2.1 F.2.2.2.2.2.2.2.1 (fun t ht hW => jr_end F hp hP hD hS hO t ht hW) hS.2.2 hd
theorem jr_vret (F : Fx G X own cc nL d none) (hd : decode cc pc = .ok (.return_, 1)) (hp : post none w) : Jw G X post pc lv [] w := by
  intro H locs ls hP hD hS hO hl
  exact W.vret (hlocks := F.2.2.2.2.2.2.2.2.1) F.1 F.2.1 F.2.2.2.2.2.2.2.1 (fun t ht hW => jr_end F hp hP hD hS hO t ht hW) hS.2.2 hd
end JH
end
section
/-! what the tables say of a call -/
def Cb (y : MethodName) (b : ByteArray) (nL : Nat) (ret : Option FieldType) (n : Nat) : Prop := Cond.initialized y.cls ∈ tb0 ∧ Cond.code y b nL ret ∈ tb0 ∧ y.cls ≠ "java/lang/invoke/MethodHandle" ∧ y.cls ≠ "java/lang/invoke/VarHandle" ∧ (parseMethodDescriptor y.desc).map (fun d => d.parameters.length) = some n
def Cv (own : String) (i : Nat) (y : MethodName) (b : ByteArray) (nL : Nat) (ret : Option FieldType) (n : Nat) : Prop := Cb y b nL ret n ∧ Cond.methodLink own i y ∈ tb0 ∧ Cond.instanceMethod y ∈ tb0 ∧ Cond.selects y.cls y y ∈ tb0
def Cs (own : String) (i : Nat) (y : MethodName) (b : ByteArray) (nL : Nat) (ret : Option FieldType) (n : Nat) : Prop := Cb y b nL ret n ∧ Cond.methodLink own i y ∈ tb0 ∧ Cond.static y ∈ tb0
def Cn (own : String) (i : Nat) (y : MethodName) (b : ByteArray) (nL : Nat) (ret : Option FieldType) (n : Nat) : Prop := Cb y b nL ret n ∧ (∃ h : String, (own, i, y, h) ∈ nst) ∧ Cond.static y ∈ tb0
section JC
variable {G : Gc} {X : Xc} {own : String} {cc : ByteArray} {nL d : Nat} {ret : Option FieldType} {post : Option Value → Wd → Prop} {pc : Nat} {lv : List (Option Value)} {st rest : List Value} {w : Wd}
theorem sp_blind {G : Gc} {w : Wd} {args : List Value} {sz : Nat} : FrameBlind (va_Pc args (fun U => U.heap.size = sz ∧ va_P (gD G) vwCl (cels G w) U.heap ∧ va_K (gD G) vwCl (gT G) U ∧ NWs U ∧ va_D (fun _ => True) (cels G w))) := by
  intro a U g mk q
  obtain ⟨q0, q1, qP, qK, qN, qD⟩ := q
  exact ⟨q0, q1, qP, va_K.moved (u := U) (U := U.calling g mk a) (Vm.Alike.refl U.vm) qK, NWs.same (u := U) (U := U.calling g mk a) rfl qN, qD⟩
theorem sp_pre {args : List Value} {H : Heap} (F : Fx G X own cc nL d ret) (hP : va_P (gD G) vwCl (cels G w) H) (hD : va_D (xA X) (cels G w)) : ∀ U : State, U.heap = H → (xs X).WarmedH U.vm → va_Pc args (fun U => U.heap.size = H.size ∧ va_P (gD G) vwCl (cels G w) U.heap ∧ va_K (gD G) vwCl (gT G) U ∧ NWs U ∧ va_D (fun _ => True) (cels G w)) args.toArray U :=
  fun U hU hW => ⟨rfl, by rw [hU], by rw [hU]; exact hP, va_K.moved hW.alike F.2.2.2.2.2.1, NWs.warm hW F.2.2.2.2.2.2.1, hD.weaken (fun _ _ _ _ => trivial)⟩
theorem sp_go {post1 : Option Value → Wd → Prop} {a : Array Value} {H : Heap} {locs : List Loc} {ls : Array Slot} (F : Fx G X own cc nL d ret) (hD : va_D (xA X) (cels G w)) (hS : va_S (xA X) (xs X).heap H locs) (hl : lh ls (xc X).maxLocals lv)
    (hr : va_Run (xp X) (gl G) (xe X) (xR X) (xs X) (xm X) (xa X) (xb X) (xt X) (xc X) H locs 0 0 0 0 (F0 (xm X) pc ls st) rest (Qg G post1 (va_A (cels G w) H.size) a) (va_A (cels G w) H.size))
    (kk : ∀ (v : Option Value) (w' : Wd), post1 v w' → Jw G X post (pc + 3) lv (v.toList ++ rest) w') :
    W (xp X) (gl G) (xe X) (xR X) (xs X) (xm X) (xa X) (xb X) (xt X) (xc X) H locs 0 0 (MQ (xb X) (Qg G post (xA X)) (xa X) (xs X) 0 0 (xA X)) (F0 (xm X) pc ls st) := by
  have hA : ∀ q, va_A (cels G w) H.size q → xA X q := fun q h => by
    rcases h with ⟨k, e, h⟩ | h
    · exact hD.2 k (q, e) h
    · exact F.2.2.2.2.2.2.2.2.2.2.2.2.2 q (Nat.le_trans hS.1 h)
  intro T hT XX
  obtain ⟨v, st₀, t, T', L, h0, X', hL, e1, e2, ⟨⟨v', w', hv, hp, hO', hP', hK', hD'⟩, hz, hk⟩, go⟩ := hr T hT XX
  cases hv
  rw [h0] at hz hk
  obtain ⟨t2, a1, b1⟩ := kk v w' hp T'.heap (locs ++ L) ls (by rw [e1]; exact hP') (hD'.weaken (fun _ q _ h => hA q.1 h))
    ⟨Nat.le_trans hS.1 (by rw [e1]; exact hz), fun q h1 h2 => by rw [e1, hk q (Nat.lt_of_lt_of_le h1 hS.1) (fun z => h2 (hA q z))]; exact hS.2.1 q h1 h2, fun q hq => by
      rcases List.mem_append.mp hq with h | h
      · exact hS.2.2 q h
      · exact hA _ (hL q h)⟩ hO' hl T' rfl X'
  exact ⟨t2, go t2 a1, b1⟩
theorem cb_of {y : MethodName} {b : ByteArray} {nL' n d' i : Nat} {ret' : Option FieldType} (F : Fx G X own cc nL d ret) (L : Cb y b nL' ret' n) (hl : Cond.methodLink own i y ∈ tb0) (hdd : d' + 1 ≤ d) (hml : nL' ≤ 21) :
    CallB (xR X) (xs X) (xa X) own i y b nL' ret' (Cond.code y b nL' ret' :: tb0) { frames := d', cells := 0, slots := 0, locals := 40 * d' } 0 0 n :=
  callB_of n F.2.2.2.2.1 (tb_good y b nL' ret' (fun _ h => h) L.2.1) rfl rfl rfl (F.2.2.2.2.1 _ L.1) (F.2.2.2.2.1 _ hl) ⟨L.2.2.1, L.2.2.2.1, L.2.2.2.2⟩
    ⟨by rw [F.2.2.2.2.2.2.2.2.2.1]; exact hdd, by rw [F.2.2.2.2.2.2.2.2.2.2.1]; show 8 + (nL' + 11) + 40 * d' ≤ 40 * d; omega⟩
theorem jr_callV (F : Fx G X own cc nL d ret) {i k ci d' nL' n : Nat} {y : MethodName} {b : ByteArray} {ret' : Option FieldType} {fs : List Nat} {As : List Value} {q : vw_C} {post1 : Option Value → Wd → Prop} (hd : decode cc pc = .ok (.invokevirtual i, 3)) (L : Cv own i y b nL' ret' n)
    (hc : Sp G d' y b nL' ret' (.ref (ga G k) :: As) w post1) (hk : k < gn G) (hs : gS G k = .inr (ci, fs)) (hq : vwCl[ci]? = some q) (hqc : q.1 = y.cls) (hn : As.length = n) (hdd : d' + 1 ≤ d) (hml : nL' ≤ 21) (hst : st = As.reverse ++ .ref (ga G k) :: rest) (hcat : (rest.map fun v => v.category).sum ≤ 8)
    (kk : ∀ (v : Option Value) (w' : Wd), post1 v w' → Jw G X post (pc + 3) lv (v.toList ++ rest) w') : Jw G X post pc lv st w := by
  intro H locs ls hP hD hS hO hl
  refine sp_go F hD hS hl (va_runV (As := As) ⟨F.1, F.2.1, F.2.2.1, F.2.2.2.1, F.2.2.2.2.1⟩ (hc hO H.size) ⟨cb_of F L.1 L.2.1 hdd hml, F.2.2.2.2.1 _ L.2.2.1, F.2.2.2.2.1 _ L.2.2.2⟩ ⟨sp_blind, ?_, sp_pre F hP hD⟩ rfl hn (by rw [← F.2.2.1]; exact hl.1) hst (lv_room hcat) hd ⟨Nat.zero_le _, Nat.zero_le _⟩) kk
  rw [← hqc]
  exact va_recv F.2.2.2.2.2.1 hP hq (by rw [cels_get hk, cel_O hs])
theorem jr_callS (F : Fx G X own cc nL d ret) {i d' nL' n : Nat} {y : MethodName} {b : ByteArray} {ret' : Option FieldType} {As : List Value} {post1 : Option Value → Wd → Prop} (hd : decode cc pc = .ok (.invokestatic i, 3)) (L : Cs own i y b nL' ret' n)
    (hc : Sp G d' y b nL' ret' As w post1) (hn : As.length = n) (hdd : d' + 1 ≤ d) (hml : nL' ≤ 21) (hst : st = As.reverse ++ rest) (hcat : (rest.map fun v => v.category).sum ≤ 8)
    (kk : ∀ (v : Option Value) (w' : Wd), post1 v w' → Jw G X post (pc + 3) lv (v.toList ++ rest) w') : Jw G X post pc lv st w := by
  intro H locs ls hP hD hS hO hl
  exact sp_go F hD hS hl (va_runS (As := As) ⟨F.1, F.2.1, F.2.2.1, F.2.2.2.1, F.2.2.2.2.1⟩ (hc hO H.size) ⟨cb_of F L.1 L.2.1 hdd hml, F.2.2.2.2.1 _ L.2.2⟩ ⟨sp_blind, sp_pre F hP hD⟩ rfl hn (by rw [← F.2.2.1]; exact hl.1) hst (lv_room hcat) hd ⟨Nat.zero_le _, Nat.zero_le _⟩) kk
theorem jr_callN (F : Fx G X own cc nL d ret) {i d' nL' n : Nat} {y : MethodName} {b : ByteArray} {ret' : Option FieldType} {As : List Value} {post1 : Option Value → Wd → Prop} (hd : decode cc pc = .ok (.invokestatic i, 3)) (L : Cn own i y b nL' ret' n)
    (hc : Sp G d' y b nL' ret' As w post1) (hn : As.length = n) (hdd : d' + 1 ≤ d) (hml : nL' ≤ 21) (hst : st = As.reverse ++ rest) (hcat : (rest.map fun v => v.category).sum ≤ 8)
    (kk : ∀ (v : Option Value) (w' : Wd), post1 v w' → Jw G X post (pc + 3) lv (v.toList ++ rest) w') : Jw G X post pc lv st w := by
  intro H locs ls hP hD hS hO hl
  obtain ⟨L1, ⟨h, L2⟩, L3⟩ := L
  exact sp_go F hD hS hl (va_runSN (As := As) ⟨F.1, F.2.1, F.2.2.1, F.2.2.2.1, F.2.2.2.2.1⟩ (hc hO H.size) ⟨va_cnB n F.2.2.2.2.1 (tb_good y b nL' ret' (fun _ h => h) L1.2.1) rfl rfl rfl (F.2.2.2.2.2.2.1 _ L2) (F.2.2.2.2.1 _ L1.1) ⟨L1.2.2.1, L1.2.2.2.1, L1.2.2.2.2⟩ ⟨by rw [F.2.2.2.2.2.2.2.2.2.1]; exact hdd, by rw [F.2.2.2.2.2.2.2.2.2.2.1]; show 8 + (nL' + 11) + 40 * d' ≤ 40 * d; omega⟩, F.2.2.2.2.1 _ L3, trivial⟩ ⟨sp_blind, sp_pre F hP hD⟩ rfl hn (by rw [← F.2.2.1]; exact hl.1) hst (lv_room hcat) hd ⟨Nat.zero_le _, Nat.zero_le _⟩) kk
theorem jr_aret (F : Fx G X own cc nL d ret) {n : String} (hr : ret = some (.object n)) {a : Nat} (hd : decode cc pc = .ok (.areturn, 1)) (hp : post (some (.ref a)) w) : Jw G X post pc lv [.ref a] w := by
  subst hr
  intro H locs ls hP hD hS hO hl
  exact W.aret (hlocks := F.2.2.2.2.2.2.2.2.1) F.1 F.2.1 F.2.2.2.2.2.2.2.1 (Or.inl ⟨n, rfl⟩) (Or.inr ⟨a, rfl⟩) (fun t ht hW => jr_end F hp hP hD hS hO t ht hW) hS.2.2 hd
end JC
end
section
abbrev cJ_max : ByteArray := prog_12_method_65_code
def yJ_max : MethodName := ⟨"java/lang/Math", "max", "(II)I"⟩
abbrev cJ_min : ByteArray := prog_12_method_69_code
def yJ_min : MethodName := ⟨"java/lang/Math", "min", "(II)I"⟩
abbrev cJ_abs : ByteArray := prog_12_method_59_code
def yJ_abs : MethodName := ⟨"java/lang/Math", "abs", "(I)I"⟩
abbrev cJ_bitCount : ByteArray := prog_11_method_49_code
def yJ_bitCount : MethodName := ⟨"java/lang/Integer", "bitCount", "(I)I"⟩
theorem wsX0_in : ∀ w ∈ u_ws RX0 TX0 2, w ∈ tb0 := by
  intro w hw
  obtain ⟨k, hk, rfl⟩ := List.mem_map.mp hw
  have hk := List.mem_range.mp hk
  match k, hk with
  | 0, _ => exact tb_in 208 (by decide +kernel) (by decide +kernel)
  | 1, _ => exact tb_in 210 (by decide +kernel) (by decide +kernel)
  | q + 2, h => exact absurd h (by omega)
theorem wsX1_in : ∀ w ∈ u_ws RX1 TX1 18, w ∈ tb0 := by
  intro w hw
  obtain ⟨k, hk, rfl⟩ := List.mem_map.mp hw
  have hk := List.mem_range.mp hk
  match k, hk with
  | 0, _ => exact tb_in 231 (by decide +kernel) (by decide +kernel)
  | 1, _ => exact tb_in 233 (by decide +kernel) (by decide +kernel)
  | 2, _ => exact tb_in 235 (by decide +kernel) (by decide +kernel)
  | 3, _ => exact tb_in 237 (by decide +kernel) (by decide +kernel)
  | 4, _ => exact tb_in 239 (by decide +kernel) (by decide +kernel)
  | 5, _ => exact tb_in 241 (by decide +kernel) (by decide +kernel)
  | 6, _ => exact tb_in 243 (by decide +kernel) (by decide +kernel)
  | 7, _ => exact tb_in 245 (by decide +kernel) (by decide +kernel)
  | 8, _ => exact tb_in 247 (by decide +kernel) (by decide +kernel)
  | 9, _ => exact tb_in 249 (by decide +kernel) (by decide +kernel)
  | 10, _ => exact tb_in 251 (by decide +kernel) (by decide +kernel)
  | 11, _ => exact tb_in 253 (by decide +kernel) (by decide +kernel)
  | 12, _ => exact tb_in 255 (by decide +kernel) (by decide +kernel)
  | 13, _ => exact tb_in 257 (by decide +kernel) (by decide +kernel)
  | 14, _ => exact tb_in 259 (by decide +kernel) (by decide +kernel)
  | 15, _ => exact tb_in 261 (by decide +kernel) (by decide +kernel)
  | 16, _ => exact tb_in 263 (by decide +kernel) (by decide +kernel)
  | 17, _ => exact tb_in 265 (by decide +kernel) (by decide +kernel)
  | q + 18, h => exact absurd h (by omega)
theorem wsX2_in : ∀ w ∈ u_ws RX2 TX2 4, w ∈ tb0 := by
  intro w hw
  obtain ⟨k, hk, rfl⟩ := List.mem_map.mp hw
  have hk := List.mem_range.mp hk
  match k, hk with
  | 0, _ => exact tb_in 185 (by decide +kernel) (by decide +kernel)
  | 1, _ => exact tb_in 187 (by decide +kernel) (by decide +kernel)
  | 2, _ => exact tb_in 189 (by decide +kernel) (by decide +kernel)
  | 3, _ => exact tb_in 191 (by decide +kernel) (by decide +kernel)
  | q + 4, h => exact absurd h (by omega)
theorem wsX3_in : ∀ w ∈ u_ws RX3 TX3 5, w ∈ tb0 := by
  intro w hw
  obtain ⟨k, hk, rfl⟩ := List.mem_map.mp hw
  have hk := List.mem_range.mp hk
  match k, hk with
  | 0, _ => exact tb_in 94 (by decide +kernel) (by decide +kernel)
  | 1, _ => exact tb_in 96 (by decide +kernel) (by decide +kernel)
  | 2, _ => exact tb_in 98 (by decide +kernel) (by decide +kernel)
  | 3, _ => exact tb_in 100 (by decide +kernel) (by decide +kernel)
  | 4, _ => exact tb_in 102 (by decide +kernel) (by decide +kernel)
  | q + 5, h => exact absurd h (by omega)
theorem wsX4_in : ∀ w ∈ u_ws RX4 TX4 3, w ∈ tb0 := by
  intro w hw
  obtain ⟨k, hk, rfl⟩ := List.mem_map.mp hw
  have hk := List.mem_range.mp hk
  match k, hk with
  | 0, _ => exact tb_in 140 (by decide +kernel) (by decide +kernel)
  | 1, _ => exact tb_in 142 (by decide +kernel) (by decide +kernel)
  | 2, _ => exact tb_in 144 (by decide +kernel) (by decide +kernel)
  | q + 3, h => exact absurd h (by omega)
theorem wsX5_in : ∀ w ∈ u_ws RX5 TX5 7, w ∈ tb0 := by
  intro w hw
  obtain ⟨k, hk, rfl⟩ := List.mem_map.mp hw
  have hk := List.mem_range.mp hk
  match k, hk with
  | 0, _ => exact tb_in 160 (by decide +kernel) (by decide +kernel)
  | 1, _ => exact tb_in 162 (by decide +kernel) (by decide +kernel)
  | 2, _ => exact tb_in 164 (by decide +kernel) (by decide +kernel)
  | 3, _ => exact tb_in 166 (by decide +kernel) (by decide +kernel)
  | 4, _ => exact tb_in 168 (by decide +kernel) (by decide +kernel)
  | 5, _ => exact tb_in 170 (by decide +kernel) (by decide +kernel)
  | 6, _ => exact tb_in 172 (by decide +kernel) (by decide +kernel)
  | q + 7, h => exact absurd h (by omega)
theorem wsX6_in : ∀ w ∈ u_ws RX6 TX6 5, w ∈ tb0 := by
  intro w hw
  obtain ⟨k, hk, rfl⟩ := List.mem_map.mp hw
  have hk := List.mem_range.mp hk
  match k, hk with
  | 0, _ => exact tb_in 120 (by decide +kernel) (by decide +kernel)
  | 1, _ => exact tb_in 122 (by decide +kernel) (by decide +kernel)
  | 2, _ => exact tb_in 124 (by decide +kernel) (by decide +kernel)
  | 3, _ => exact tb_in 126 (by decide +kernel) (by decide +kernel)
  | 4, _ => exact tb_in 128 (by decide +kernel) (by decide +kernel)
  | q + 5, h => exact absurd h (by omega)
theorem wsX7_in : ∀ w ∈ u_ws RX7 TX7 9, w ∈ tb0 := by
  intro w hw
  obtain ⟨k, hk, rfl⟩ := List.mem_map.mp hw
  have hk := List.mem_range.mp hk
  match k, hk with
  | 0, _ => exact tb_in 277 (by decide +kernel) (by decide +kernel)
  | 1, _ => exact tb_in 279 (by decide +kernel) (by decide +kernel)
  | 2, _ => exact tb_in 281 (by decide +kernel) (by decide +kernel)
  | 3, _ => exact tb_in 283 (by decide +kernel) (by decide +kernel)
  | 4, _ => exact tb_in 285 (by decide +kernel) (by decide +kernel)
  | 5, _ => exact tb_in 287 (by decide +kernel) (by decide +kernel)
  | 6, _ => exact tb_in 289 (by decide +kernel) (by decide +kernel)
  | 7, _ => exact tb_in 291 (by decide +kernel) (by decide +kernel)
  | 8, _ => exact tb_in 293 (by decide +kernel) (by decide +kernel)
  | q + 9, h => exact absurd h (by omega)
theorem wsX8_in : ∀ w ∈ u_ws RX8 TX8 34, w ∈ tb0 := by
  intro w hw
  obtain ⟨k, hk, rfl⟩ := List.mem_map.mp hw
  have hk := List.mem_range.mp hk
  match k, hk with
  | 0, _ => exact tb_in 940 (by decide +kernel) (by decide +kernel)
  | 1, _ => exact tb_in 942 (by decide +kernel) (by decide +kernel)
  | 2, _ => exact tb_in 944 (by decide +kernel) (by decide +kernel)
  | 3, _ => exact tb_in 946 (by decide +kernel) (by decide +kernel)
  | 4, _ => exact tb_in 948 (by decide +kernel) (by decide +kernel)
  | 5, _ => exact tb_in 950 (by decide +kernel) (by decide +kernel)
  | 6, _ => exact tb_in 952 (by decide +kernel) (by decide +kernel)
  | 7, _ => exact tb_in 954 (by decide +kernel) (by decide +kernel)
  | 8, _ => exact tb_in 956 (by decide +kernel) (by decide +kernel)
  | 9, _ => exact tb_in 958 (by decide +kernel) (by decide +kernel)
  | 10, _ => exact tb_in 960 (by decide +kernel) (by decide +kernel)
  | 11, _ => exact tb_in 962 (by decide +kernel) (by decide +kernel)
  | 12, _ => exact tb_in 964 (by decide +kernel) (by decide +kernel)
  | 13, _ => exact tb_in 966 (by decide +kernel) (by decide +kernel)
  | 14, _ => exact tb_in 968 (by decide +kernel) (by decide +kernel)
  | 15, _ => exact tb_in 970 (by decide +kernel) (by decide +kernel)
  | 16, _ => exact tb_in 972 (by decide +kernel) (by decide +kernel)
  | 17, _ => exact tb_in 974 (by decide +kernel) (by decide +kernel)
  | 18, _ => exact tb_in 976 (by decide +kernel) (by decide +kernel)
  | 19, _ => exact tb_in 978 (by decide +kernel) (by decide +kernel)
  | 20, _ => exact tb_in 980 (by decide +kernel) (by decide +kernel)
  | 21, _ => exact tb_in 982 (by decide +kernel) (by decide +kernel)
  | 22, _ => exact tb_in 984 (by decide +kernel) (by decide +kernel)
  | 23, _ => exact tb_in 986 (by decide +kernel) (by decide +kernel)
  | 24, _ => exact tb_in 988 (by decide +kernel) (by decide +kernel)
  | 25, _ => exact tb_in 990 (by decide +kernel) (by decide +kernel)
  | 26, _ => exact tb_in 992 (by decide +kernel) (by decide +kernel)
  | 27, _ => exact tb_in 994 (by decide +kernel) (by decide +kernel)
  | 28, _ => exact tb_in 996 (by decide +kernel) (by decide +kernel)
  | 29, _ => exact tb_in 998 (by decide +kernel) (by decide +kernel)
  | 30, _ => exact tb_in 1000 (by decide +kernel) (by decide +kernel)
  | 31, _ => exact tb_in 1002 (by decide +kernel) (by decide +kernel)
  | 32, _ => exact tb_in 1004 (by decide +kernel) (by decide +kernel)
  | 33, _ => exact tb_in 1006 (by decide +kernel) (by decide +kernel)
  | q + 34, h => exact absurd h (by omega)
theorem fg_X7_10 : Fg RX7 10 7 0 := ⟨RX7, TX7, 9, rfl, by decide, wsX7_in, (tb_in 268 (by decide +kernel) (by decide +kernel))⟩
theorem fg_X7_21 : Fg RX7 21 7 1 := ⟨RX7, TX7, 9, rfl, by decide, wsX7_in, (tb_in 269 (by decide +kernel) (by decide +kernel))⟩
theorem fg_X7_25 : Fg RX7 25 7 2 := ⟨RX7, TX7, 9, rfl, by decide, wsX7_in, (tb_in 270 (by decide +kernel) (by decide +kernel))⟩
theorem fg_X7_31 : Fg RX7 31 7 3 := ⟨RX7, TX7, 9, rfl, by decide, wsX7_in, (tb_in 271 (by decide +kernel) (by decide +kernel))⟩
theorem fg_X7_35 : Fg RX7 35 7 4 := ⟨RX7, TX7, 9, rfl, by decide, wsX7_in, (tb_in 272 (by decide +kernel) (by decide +kernel))⟩
theorem fg_X7_41 : Fg RX7 41 7 5 := ⟨RX7, TX7, 9, rfl, by decide, wsX7_in, (tb_in 273 (by decide +kernel) (by decide +kernel))⟩
theorem fg_X7_48 : Fg RX7 48 7 6 := ⟨RX7, TX7, 9, rfl, by decide, wsX7_in, (tb_in 274 (by decide +kernel) (by decide +kernel))⟩
theorem fg_X7_57 : Fg RX7 57 7 7 := ⟨RX7, TX7, 9, rfl, by decide, wsX7_in, (tb_in 275 (by decide +kernel) (by decide +kernel))⟩
theorem fg_X7_61 : Fg RX7 61 7 8 := ⟨RX7, TX7, 9, rfl, by decide, wsX7_in, (tb_in 276 (by decide +kernel) (by decide +kernel))⟩
theorem fp_X7_61 : Fp RX7 61 7 8 .int := ⟨RX7, TX7, 9, tyX7, rfl, by decide, wsX7_in, (tb_in 276 (by decide +kernel) (by decide +kernel)), tyX7_ok, nmX7, rfl, (by decide +kernel)⟩
theorem fg_X0_11 : Fg RX0 11 0 0 := ⟨RX0, TX0, 2, rfl, by decide, wsX0_in, (tb_in 206 (by decide +kernel) (by decide +kernel))⟩
theorem fg_X0_15 : Fg RX0 15 0 1 := ⟨RX0, TX0, 2, rfl, by decide, wsX0_in, (tb_in 207 (by decide +kernel) (by decide +kernel))⟩
theorem fp_X0_15 : Fp RX0 15 0 1 .int := ⟨RX0, TX0, 2, tyX0, rfl, by decide, wsX0_in, (tb_in 207 (by decide +kernel) (by decide +kernel)), tyX0_ok, nmX0, rfl, (by decide +kernel)⟩
theorem fg_X1_9 : Fg RX1 9 1 0 := ⟨RX1, TX1, 18, rfl, by decide, wsX1_in, (tb_in 213 (by decide +kernel) (by decide +kernel))⟩
theorem fg_X1_15 : Fg RX1 15 1 1 := ⟨RX1, TX1, 18, rfl, by decide, wsX1_in, (tb_in 214 (by decide +kernel) (by decide +kernel))⟩
theorem fg_X1_19 : Fg RX1 19 1 2 := ⟨RX1, TX1, 18, rfl, by decide, wsX1_in, (tb_in 215 (by decide +kernel) (by decide +kernel))⟩
theorem fg_X1_25 : Fg RX1 25 1 3 := ⟨RX1, TX1, 18, rfl, by decide, wsX1_in, (tb_in 216 (by decide +kernel) (by decide +kernel))⟩
theorem fg_X1_29 : Fg RX1 29 1 4 := ⟨RX1, TX1, 18, rfl, by decide, wsX1_in, (tb_in 217 (by decide +kernel) (by decide +kernel))⟩
theorem fg_X1_32 : Fg RX1 32 1 5 := ⟨RX1, TX1, 18, rfl, by decide, wsX1_in, (tb_in 218 (by decide +kernel) (by decide +kernel))⟩
theorem fg_X1_35 : Fg RX1 35 1 6 := ⟨RX1, TX1, 18, rfl, by decide, wsX1_in, (tb_in 219 (by decide +kernel) (by decide +kernel))⟩
theorem fg_X1_39 : Fg RX1 39 1 7 := ⟨RX1, TX1, 18, rfl, by decide, wsX1_in, (tb_in 220 (by decide +kernel) (by decide +kernel))⟩
theorem fg_X1_42 : Fg RX1 42 1 8 := ⟨RX1, TX1, 18, rfl, by decide, wsX1_in, (tb_in 221 (by decide +kernel) (by decide +kernel))⟩
theorem fg_X1_45 : Fg RX1 45 1 9 := ⟨RX1, TX1, 18, rfl, by decide, wsX1_in, (tb_in 222 (by decide +kernel) (by decide +kernel))⟩
theorem fg_X1_48 : Fg RX1 48 1 10 := ⟨RX1, TX1, 18, rfl, by decide, wsX1_in, (tb_in 223 (by decide +kernel) (by decide +kernel))⟩
theorem fg_X1_51 : Fg RX1 51 1 11 := ⟨RX1, TX1, 18, rfl, by decide, wsX1_in, (tb_in 224 (by decide +kernel) (by decide +kernel))⟩
theorem fg_X1_54 : Fg RX1 54 1 12 := ⟨RX1, TX1, 18, rfl, by decide, wsX1_in, (tb_in 225 (by decide +kernel) (by decide +kernel))⟩
theorem fg_X1_57 : Fg RX1 57 1 13 := ⟨RX1, TX1, 18, rfl, by decide, wsX1_in, (tb_in 226 (by decide +kernel) (by decide +kernel))⟩
theorem fp_X1_57 : Fp RX1 57 1 13 .int := ⟨RX1, TX1, 18, tyX1, rfl, by decide, wsX1_in, (tb_in 226 (by decide +kernel) (by decide +kernel)), tyX1_ok, nmX1, rfl, (by decide +kernel)⟩
theorem fg_X1_61 : Fg RX1 61 1 14 := ⟨RX1, TX1, 18, rfl, by decide, wsX1_in, (tb_in 227 (by decide +kernel) (by decide +kernel))⟩
theorem fp_X1_61 : Fp RX1 61 1 14 .int := ⟨RX1, TX1, 18, tyX1, rfl, by decide, wsX1_in, (tb_in 227 (by decide +kernel) (by decide +kernel)), tyX1_ok, nmX1, rfl, (by decide +kernel)⟩
theorem fg_X1_64 : Fg RX1 64 1 15 := ⟨RX1, TX1, 18, rfl, by decide, wsX1_in, (tb_in 228 (by decide +kernel) (by decide +kernel))⟩
theorem fp_X1_64 : Fp RX1 64 1 15 .int := ⟨RX1, TX1, 18, tyX1, rfl, by decide, wsX1_in, (tb_in 228 (by decide +kernel) (by decide +kernel)), tyX1_ok, nmX1, rfl, (by decide +kernel)⟩
theorem fg_X1_67 : Fg RX1 67 1 16 := ⟨RX1, TX1, 18, rfl, by decide, wsX1_in, (tb_in 229 (by decide +kernel) (by decide +kernel))⟩
theorem fp_X1_67 : Fp RX1 67 1 16 .int := ⟨RX1, TX1, 18, tyX1, rfl, by decide, wsX1_in, (tb_in 229 (by decide +kernel) (by decide +kernel)), tyX1_ok, nmX1, rfl, (by decide +kernel)⟩
theorem fg_X1_70 : Fg RX1 70 1 17 := ⟨RX1, TX1, 18, rfl, by decide, wsX1_in, (tb_in 230 (by decide +kernel) (by decide +kernel))⟩
theorem fp_X1_70 : Fp RX1 70 1 17 .boolean := ⟨RX1, TX1, 18, tyX1, rfl, by decide, wsX1_in, (tb_in 230 (by decide +kernel) (by decide +kernel)), tyX1_ok, nmX1, rfl, (by decide +kernel)⟩
theorem fg_X2_9 : Fg RX2 9 2 0 := ⟨RX2, TX2, 4, rfl, by decide, wsX2_in, (tb_in 181 (by decide +kernel) (by decide +kernel))⟩
theorem fg_X2_15 : Fg RX2 15 2 1 := ⟨RX2, TX2, 4, rfl, by decide, wsX2_in, (tb_in 182 (by decide +kernel) (by decide +kernel))⟩
theorem fp_X2_15 : Fp RX2 15 2 1 .int := ⟨RX2, TX2, 4, tyX2, rfl, by decide, wsX2_in, (tb_in 182 (by decide +kernel) (by decide +kernel)), tyX2_ok, nmX2, rfl, (by decide +kernel)⟩
theorem fg_X2_19 : Fg RX2 19 2 2 := ⟨RX2, TX2, 4, rfl, by decide, wsX2_in, (tb_in 183 (by decide +kernel) (by decide +kernel))⟩
theorem fp_X2_19 : Fp RX2 19 2 2 .int := ⟨RX2, TX2, 4, tyX2, rfl, by decide, wsX2_in, (tb_in 183 (by decide +kernel) (by decide +kernel)), tyX2_ok, nmX2, rfl, (by decide +kernel)⟩
theorem fg_X2_22 : Fg RX2 22 2 3 := ⟨RX2, TX2, 4, rfl, by decide, wsX2_in, (tb_in 184 (by decide +kernel) (by decide +kernel))⟩
theorem fp_X2_22 : Fp RX2 22 2 3 .int := ⟨RX2, TX2, 4, tyX2, rfl, by decide, wsX2_in, (tb_in 184 (by decide +kernel) (by decide +kernel)), tyX2_ok, nmX2, rfl, (by decide +kernel)⟩
theorem fg_X3_11 : Fg RX3 11 3 0 := ⟨RX3, TX3, 5, rfl, by decide, wsX3_in, (tb_in 89 (by decide +kernel) (by decide +kernel))⟩
theorem fg_X3_15 : Fg RX3 15 3 1 := ⟨RX3, TX3, 5, rfl, by decide, wsX3_in, (tb_in 90 (by decide +kernel) (by decide +kernel))⟩
theorem fg_X3_18 : Fg RX3 18 3 2 := ⟨RX3, TX3, 5, rfl, by decide, wsX3_in, (tb_in 91 (by decide +kernel) (by decide +kernel))⟩
theorem fg_X3_21 : Fg RX3 21 3 3 := ⟨RX3, TX3, 5, rfl, by decide, wsX3_in, (tb_in 92 (by decide +kernel) (by decide +kernel))⟩
theorem fp_X3_21 : Fp RX3 21 3 3 .int := ⟨RX3, TX3, 5, tyX3, rfl, by decide, wsX3_in, (tb_in 92 (by decide +kernel) (by decide +kernel)), tyX3_ok, nmX3, rfl, (by decide +kernel)⟩
theorem fg_X3_25 : Fg RX3 25 3 4 := ⟨RX3, TX3, 5, rfl, by decide, wsX3_in, (tb_in 93 (by decide +kernel) (by decide +kernel))⟩
theorem fp_X3_25 : Fp RX3 25 3 4 .int := ⟨RX3, TX3, 5, tyX3, rfl, by decide, wsX3_in, (tb_in 93 (by decide +kernel) (by decide +kernel)), tyX3_ok, nmX3, rfl, (by decide +kernel)⟩
theorem fg_X4_9 : Fg RX4 9 4 0 := ⟨RX4, TX4, 3, rfl, by decide, wsX4_in, (tb_in 137 (by decide +kernel) (by decide +kernel))⟩
theorem fg_X4_15 : Fg RX4 15 4 1 := ⟨RX4, TX4, 3, rfl, by decide, wsX4_in, (tb_in 138 (by decide +kernel) (by decide +kernel))⟩
theorem fg_X4_18 : Fg RX4 18 4 2 := ⟨RX4, TX4, 3, rfl, by decide, wsX4_in, (tb_in 139 (by decide +kernel) (by decide +kernel))⟩
theorem fp_X4_18 : Fp RX4 18 4 2 .int := ⟨RX4, TX4, 3, tyX4, rfl, by decide, wsX4_in, (tb_in 139 (by decide +kernel) (by decide +kernel)), tyX4_ok, nmX4, rfl, (by decide +kernel)⟩
theorem fg_X5_9 : Fg RX5 9 5 0 := ⟨RX5, TX5, 7, rfl, by decide, wsX5_in, (tb_in 153 (by decide +kernel) (by decide +kernel))⟩
theorem fp_X5_9 : Fp RX5 9 5 0 .int := ⟨RX5, TX5, 7, tyX5, rfl, by decide, wsX5_in, (tb_in 153 (by decide +kernel) (by decide +kernel)), tyX5_ok, nmX5, rfl, (by decide +kernel)⟩
theorem fg_X5_15 : Fg RX5 15 5 1 := ⟨RX5, TX5, 7, rfl, by decide, wsX5_in, (tb_in 154 (by decide +kernel) (by decide +kernel))⟩
theorem fp_X5_15 : Fp RX5 15 5 1 .int := ⟨RX5, TX5, 7, tyX5, rfl, by decide, wsX5_in, (tb_in 154 (by decide +kernel) (by decide +kernel)), tyX5_ok, nmX5, rfl, (by decide +kernel)⟩
theorem fg_X5_18 : Fg RX5 18 5 2 := ⟨RX5, TX5, 7, rfl, by decide, wsX5_in, (tb_in 155 (by decide +kernel) (by decide +kernel))⟩
theorem fp_X5_18 : Fp RX5 18 5 2 .int := ⟨RX5, TX5, 7, tyX5, rfl, by decide, wsX5_in, (tb_in 155 (by decide +kernel) (by decide +kernel)), tyX5_ok, nmX5, rfl, (by decide +kernel)⟩
theorem fg_X5_21 : Fg RX5 21 5 3 := ⟨RX5, TX5, 7, rfl, by decide, wsX5_in, (tb_in 156 (by decide +kernel) (by decide +kernel))⟩
theorem fp_X5_21 : Fp RX5 21 5 3 .int := ⟨RX5, TX5, 7, tyX5, rfl, by decide, wsX5_in, (tb_in 156 (by decide +kernel) (by decide +kernel)), tyX5_ok, nmX5, rfl, (by decide +kernel)⟩
theorem fg_X5_24 : Fg RX5 24 5 4 := ⟨RX5, TX5, 7, rfl, by decide, wsX5_in, (tb_in 157 (by decide +kernel) (by decide +kernel))⟩
theorem fp_X5_24 : Fp RX5 24 5 4 .long := ⟨RX5, TX5, 7, tyX5, rfl, by decide, wsX5_in, (tb_in 157 (by decide +kernel) (by decide +kernel)), tyX5_ok, nmX5, rfl, (by decide +kernel)⟩
theorem fg_X5_28 : Fg RX5 28 5 5 := ⟨RX5, TX5, 7, rfl, by decide, wsX5_in, (tb_in 158 (by decide +kernel) (by decide +kernel))⟩
theorem fp_X5_28 : Fp RX5 28 5 5 .long := ⟨RX5, TX5, 7, tyX5, rfl, by decide, wsX5_in, (tb_in 158 (by decide +kernel) (by decide +kernel)), tyX5_ok, nmX5, rfl, (by decide +kernel)⟩
theorem fg_X5_31 : Fg RX5 31 5 6 := ⟨RX5, TX5, 7, rfl, by decide, wsX5_in, (tb_in 159 (by decide +kernel) (by decide +kernel))⟩
theorem fp_X5_31 : Fp RX5 31 5 6 .long := ⟨RX5, TX5, 7, tyX5, rfl, by decide, wsX5_in, (tb_in 159 (by decide +kernel) (by decide +kernel)), tyX5_ok, nmX5, rfl, (by decide +kernel)⟩
theorem fg_X6_13 : Fg RX6 13 6 2 := ⟨RX6, TX6, 5, rfl, by decide, wsX6_in, (tb_in 117 (by decide +kernel) (by decide +kernel))⟩
theorem fg_X6_19 : Fg RX6 19 6 0 := ⟨RX6, TX6, 5, rfl, by decide, wsX6_in, (tb_in 115 (by decide +kernel) (by decide +kernel))⟩
theorem fg_X6_23 : Fg RX6 23 6 1 := ⟨RX6, TX6, 5, rfl, by decide, wsX6_in, (tb_in 116 (by decide +kernel) (by decide +kernel))⟩
theorem fg_X6_26 : Fg RX6 26 6 3 := ⟨RX6, TX6, 5, rfl, by decide, wsX6_in, (tb_in 118 (by decide +kernel) (by decide +kernel))⟩
theorem fp_X6_26 : Fp RX6 26 6 3 .int := ⟨RX6, TX6, 5, tyX6, rfl, by decide, wsX6_in, (tb_in 118 (by decide +kernel) (by decide +kernel)), tyX6_ok, nmX6, rfl, (by decide +kernel)⟩
theorem fg_X6_29 : Fg RX6 29 6 4 := ⟨RX6, TX6, 5, rfl, by decide, wsX6_in, (tb_in 119 (by decide +kernel) (by decide +kernel))⟩
theorem fp_X6_29 : Fp RX6 29 6 4 .int := ⟨RX6, TX6, 5, tyX6, rfl, by decide, wsX6_in, (tb_in 119 (by decide +kernel) (by decide +kernel)), tyX6_ok, nmX6, rfl, (by decide +kernel)⟩
theorem fg_X8_7 : Fg RX8 7 8 1 := ⟨RX8, TX8, 34, rfl, by decide, wsX8_in, (tb_in 907 (by decide +kernel) (by decide +kernel))⟩
theorem fg_X8_13 : Fg RX8 13 8 2 := ⟨RX8, TX8, 34, rfl, by decide, wsX8_in, (tb_in 908 (by decide +kernel) (by decide +kernel))⟩
theorem fg_X8_16 : Fg RX8 16 8 3 := ⟨RX8, TX8, 34, rfl, by decide, wsX8_in, (tb_in 909 (by decide +kernel) (by decide +kernel))⟩
theorem fg_X8_19 : Fg RX8 19 8 4 := ⟨RX8, TX8, 34, rfl, by decide, wsX8_in, (tb_in 910 (by decide +kernel) (by decide +kernel))⟩
theorem fg_X8_22 : Fg RX8 22 8 5 := ⟨RX8, TX8, 34, rfl, by decide, wsX8_in, (tb_in 911 (by decide +kernel) (by decide +kernel))⟩
theorem fg_X8_25 : Fg RX8 25 8 6 := ⟨RX8, TX8, 34, rfl, by decide, wsX8_in, (tb_in 912 (by decide +kernel) (by decide +kernel))⟩
theorem fg_X8_28 : Fg RX8 28 8 7 := ⟨RX8, TX8, 34, rfl, by decide, wsX8_in, (tb_in 913 (by decide +kernel) (by decide +kernel))⟩
theorem fg_X8_31 : Fg RX8 31 8 9 := ⟨RX8, TX8, 34, rfl, by decide, wsX8_in, (tb_in 915 (by decide +kernel) (by decide +kernel))⟩
theorem fg_X8_34 : Fg RX8 34 8 10 := ⟨RX8, TX8, 34, rfl, by decide, wsX8_in, (tb_in 916 (by decide +kernel) (by decide +kernel))⟩
theorem fg_X8_37 : Fg RX8 37 8 12 := ⟨RX8, TX8, 34, rfl, by decide, wsX8_in, (tb_in 918 (by decide +kernel) (by decide +kernel))⟩
theorem fg_X8_41 : Fg RX8 41 8 13 := ⟨RX8, TX8, 34, rfl, by decide, wsX8_in, (tb_in 919 (by decide +kernel) (by decide +kernel))⟩
theorem fg_X8_44 : Fg RX8 44 8 14 := ⟨RX8, TX8, 34, rfl, by decide, wsX8_in, (tb_in 920 (by decide +kernel) (by decide +kernel))⟩
theorem fg_X8_47 : Fg RX8 47 8 15 := ⟨RX8, TX8, 34, rfl, by decide, wsX8_in, (tb_in 921 (by decide +kernel) (by decide +kernel))⟩
theorem fg_X8_50 : Fg RX8 50 8 17 := ⟨RX8, TX8, 34, rfl, by decide, wsX8_in, (tb_in 923 (by decide +kernel) (by decide +kernel))⟩
theorem fg_X8_53 : Fg RX8 53 8 21 := ⟨RX8, TX8, 34, rfl, by decide, wsX8_in, (tb_in 927 (by decide +kernel) (by decide +kernel))⟩
theorem fg_X8_56 : Fg RX8 56 8 22 := ⟨RX8, TX8, 34, rfl, by decide, wsX8_in, (tb_in 928 (by decide +kernel) (by decide +kernel))⟩
theorem fg_X8_60 : Fg RX8 60 8 23 := ⟨RX8, TX8, 34, rfl, by decide, wsX8_in, (tb_in 929 (by decide +kernel) (by decide +kernel))⟩
theorem fg_X8_63 : Fg RX8 63 8 24 := ⟨RX8, TX8, 34, rfl, by decide, wsX8_in, (tb_in 930 (by decide +kernel) (by decide +kernel))⟩
theorem fg_X8_66 : Fg RX8 66 8 26 := ⟨RX8, TX8, 34, rfl, by decide, wsX8_in, (tb_in 932 (by decide +kernel) (by decide +kernel))⟩
theorem fg_X8_69 : Fg RX8 69 8 27 := ⟨RX8, TX8, 34, rfl, by decide, wsX8_in, (tb_in 933 (by decide +kernel) (by decide +kernel))⟩
theorem fg_X8_72 : Fg RX8 72 8 28 := ⟨RX8, TX8, 34, rfl, by decide, wsX8_in, (tb_in 934 (by decide +kernel) (by decide +kernel))⟩
theorem fg_X8_75 : Fg RX8 75 8 29 := ⟨RX8, TX8, 34, rfl, by decide, wsX8_in, (tb_in 935 (by decide +kernel) (by decide +kernel))⟩
theorem fg_X8_78 : Fg RX8 78 8 31 := ⟨RX8, TX8, 34, rfl, by decide, wsX8_in, (tb_in 937 (by decide +kernel) (by decide +kernel))⟩
theorem fg_X8_81 : Fg RX8 81 8 32 := ⟨RX8, TX8, 34, rfl, by decide, wsX8_in, (tb_in 938 (by decide +kernel) (by decide +kernel))⟩
theorem fg_X8_84 : Fg RX8 84 8 0 := ⟨RX8, TX8, 34, rfl, by decide, wsX8_in, (tb_in 906 (by decide +kernel) (by decide +kernel))⟩
theorem fp_X8_84 : Fp RX8 84 8 0 .int := ⟨RX8, TX8, 34, tyX8, rfl, by decide, wsX8_in, (tb_in 906 (by decide +kernel) (by decide +kernel)), tyX8_ok, nmX8, rfl, (by decide +kernel)⟩
theorem fg_X8_122 : Fg RX8 122 8 8 := ⟨RX8, TX8, 34, rfl, by decide, wsX8_in, (tb_in 914 (by decide +kernel) (by decide +kernel))⟩
theorem fp_X8_122 : Fp RX8 122 8 8 .int := ⟨RX8, TX8, 34, tyX8, rfl, by decide, wsX8_in, (tb_in 914 (by decide +kernel) (by decide +kernel)), tyX8_ok, nmX8, rfl, (by decide +kernel)⟩
theorem fg_X8_140 : Fg RX8 140 8 11 := ⟨RX8, TX8, 34, rfl, by decide, wsX8_in, (tb_in 917 (by decide +kernel) (by decide +kernel))⟩
theorem fp_X8_140 : Fp RX8 140 8 11 .int := ⟨RX8, TX8, 34, tyX8, rfl, by decide, wsX8_in, (tb_in 917 (by decide +kernel) (by decide +kernel)), tyX8_ok, nmX8, rfl, (by decide +kernel)⟩
theorem fg_X8_150 : Fg RX8 150 8 19 := ⟨RX8, TX8, 34, rfl, by decide, wsX8_in, (tb_in 925 (by decide +kernel) (by decide +kernel))⟩
theorem fp_X8_150 : Fp RX8 150 8 19 .int := ⟨RX8, TX8, 34, tyX8, rfl, by decide, wsX8_in, (tb_in 925 (by decide +kernel) (by decide +kernel)), tyX8_ok, nmX8, rfl, (by decide +kernel)⟩
theorem fg_X8_153 : Fg RX8 153 8 20 := ⟨RX8, TX8, 34, rfl, by decide, wsX8_in, (tb_in 926 (by decide +kernel) (by decide +kernel))⟩
theorem fp_X8_153 : Fp RX8 153 8 20 .boolean := ⟨RX8, TX8, 34, tyX8, rfl, by decide, wsX8_in, (tb_in 926 (by decide +kernel) (by decide +kernel)), tyX8_ok, nmX8, rfl, (by decide +kernel)⟩
theorem fg_X8_163 : Fg RX8 163 8 25 := ⟨RX8, TX8, 34, rfl, by decide, wsX8_in, (tb_in 931 (by decide +kernel) (by decide +kernel))⟩
theorem fp_X8_163 : Fp RX8 163 8 25 .int := ⟨RX8, TX8, 34, tyX8, rfl, by decide, wsX8_in, (tb_in 931 (by decide +kernel) (by decide +kernel)), tyX8_ok, nmX8, rfl, (by decide +kernel)⟩
theorem fg_X8_201 : Fg RX8 201 8 30 := ⟨RX8, TX8, 34, rfl, by decide, wsX8_in, (tb_in 936 (by decide +kernel) (by decide +kernel))⟩
theorem fp_X8_201 : Fp RX8 201 8 30 .boolean := ⟨RX8, TX8, 34, tyX8, rfl, by decide, wsX8_in, (tb_in 936 (by decide +kernel) (by decide +kernel)), tyX8_ok, nmX8, rfl, (by decide +kernel)⟩
theorem fg_X8_225 : Fg RX8 225 8 18 := ⟨RX8, TX8, 34, rfl, by decide, wsX8_in, (tb_in 924 (by decide +kernel) (by decide +kernel))⟩
theorem fp_X8_225 : Fp RX8 225 8 18 .int := ⟨RX8, TX8, 34, tyX8, rfl, by decide, wsX8_in, (tb_in 924 (by decide +kernel) (by decide +kernel)), tyX8_ok, nmX8, rfl, (by decide +kernel)⟩
theorem fg_X8_237 : Fg RX8 237 8 16 := ⟨RX8, TX8, 34, rfl, by decide, wsX8_in, (tb_in 922 (by decide +kernel) (by decide +kernel))⟩
theorem fp_X8_237 : Fp RX8 237 8 16 .int := ⟨RX8, TX8, 34, tyX8, rfl, by decide, wsX8_in, (tb_in 922 (by decide +kernel) (by decide +kernel)), tyX8_ok, nmX8, rfl, (by decide +kernel)⟩
theorem fg_X8_254 : Fg RX8 254 8 33 := ⟨RX8, TX8, 34, rfl, by decide, wsX8_in, (tb_in 939 (by decide +kernel) (by decide +kernel))⟩
theorem fp_X8_254 : Fp RX8 254 8 33 .long := ⟨RX8, TX8, 34, tyX8, rfl, by decide, wsX8_in, (tb_in 939 (by decide +kernel) (by decide +kernel)), tyX8_ok, nmX8, rfl, (by decide +kernel)⟩
theorem cb_J_abs : Cb yJ_abs cJ_abs 1 (Option.some FieldType.int) 1 := ⟨(tb_in 72 (by decide +kernel) (by decide +kernel)), (tb_in 858 (by decide +kernel) (by decide +kernel)), (by decide +kernel), (by decide +kernel), (by decide +kernel)⟩
theorem cb_J_bitCount : Cb yJ_bitCount cJ_bitCount 1 (Option.some FieldType.int) 1 := ⟨(tb_in 74 (by decide +kernel) (by decide +kernel)), (tb_in 766 (by decide +kernel) (by decide +kernel)), (by decide +kernel), (by decide +kernel), (by decide +kernel)⟩
theorem cb_J_max : Cb yJ_max cJ_max 2 (Option.some FieldType.int) 2 := ⟨(tb_in 72 (by decide +kernel) (by decide +kernel)), (tb_in 368 (by decide +kernel) (by decide +kernel)), (by decide +kernel), (by decide +kernel), (by decide +kernel)⟩
theorem cb_J_min : Cb yJ_min cJ_min 2 (Option.some FieldType.int) 2 := ⟨(tb_in 72 (by decide +kernel) (by decide +kernel)), (tb_in 375 (by decide +kernel) (by decide +kernel)), (by decide +kernel), (by decide +kernel), (by decide +kernel)⟩
theorem cb_X0_allows : Cb yX0_allows cX0_allows 5 (Option.some FieldType.boolean) 4 := ⟨(tb_in 70 (by decide +kernel) (by decide +kernel)), (tb_in 727 (by decide +kernel) (by decide +kernel)), (by decide +kernel), (by decide +kernel), (by decide +kernel)⟩
theorem cb_X0_clear : Cb yX0_clear cX0_clear 5 (Option.none : Option FieldType) 1 := ⟨(tb_in 70 (by decide +kernel) (by decide +kernel)), (tb_in 638 (by decide +kernel) (by decide +kernel)), (by decide +kernel), (by decide +kernel), (by decide +kernel)⟩
theorem cb_X0_copy : Cb yX0_copy cX0_copy 2 (Option.none : Option FieldType) 1 := ⟨(tb_in 70 (by decide +kernel) (by decide +kernel)), (tb_in 680 (by decide +kernel) (by decide +kernel)), (by decide +kernel), (by decide +kernel), (by decide +kernel)⟩
theorem cb_X0_hold : Cb yX0_hold cX0_hold 10 (Option.some FieldType.boolean) 3 := ⟨(tb_in 70 (by decide +kernel) (by decide +kernel)), (tb_in 657 (by decide +kernel) (by decide +kernel)), (by decide +kernel), (by decide +kernel), (by decide +kernel)⟩
theorem cb_X0_keep : Cb yX0_keep cX0_keep 5 (Option.some FieldType.boolean) 4 := ⟨(tb_in 70 (by decide +kernel) (by decide +kernel)), (tb_in 653 (by decide +kernel) (by decide +kernel)), (by decide +kernel), (by decide +kernel), (by decide +kernel)⟩
theorem cb_X0_most : Cb yX0_most cX0_most 3 (Option.some FieldType.int) 2 := ⟨(tb_in 70 (by decide +kernel) (by decide +kernel)), (tb_in 731 (by decide +kernel) (by decide +kernel)), (by decide +kernel), (by decide +kernel), (by decide +kernel)⟩
theorem cb_X1_beginning : Cb yX1_beginning cX1_beginning 3 (Option.some FieldType.int) 2 := ⟨(tb_in 69 (by decide +kernel) (by decide +kernel)), (tb_in 719 (by decide +kernel) (by decide +kernel)), (by decide +kernel), (by decide +kernel), (by decide +kernel)⟩
theorem cb_X1_end : Cb yX1_end cX1_end 3 (Option.some FieldType.int) 2 := ⟨(tb_in 69 (by decide +kernel) (by decide +kernel)), (tb_in 747 (by decide +kernel) (by decide +kernel)), (by decide +kernel), (by decide +kernel), (by decide +kernel)⟩
theorem cb_X1_find : Cb yX1_find cX1_find 5 (Option.some FieldType.boolean) 3 := ⟨(tb_in 69 (by decide +kernel) (by decide +kernel)), (tb_in 672 (by decide +kernel) (by decide +kernel)), (by decide +kernel), (by decide +kernel), (by decide +kernel)⟩
theorem cb_X1_firstUnlikeKept : Cb yX1_firstUnlikeKept cX1_firstUnlikeKept 2 (Option.some FieldType.int) 0 := ⟨(tb_in 69 (by decide +kernel) (by decide +kernel)), (tb_in 811 (by decide +kernel) (by decide +kernel)), (by decide +kernel), (by decide +kernel), (by decide +kernel)⟩
theorem cb_X1_keepSpans : Cb yX1_keepSpans cX1_keepSpans 2 (Option.none : Option FieldType) 0 := ⟨(tb_in 69 (by decide +kernel) (by decide +kernel)), (tb_in 807 (by decide +kernel) (by decide +kernel)), (by decide +kernel), (by decide +kernel), (by decide +kernel)⟩
theorem cb_X1_layBehind : Cb yX1_layBehind cX1_layBehind 6 (Option.none : Option FieldType) 3 := ⟨(tb_in 69 (by decide +kernel) (by decide +kernel)), (tb_in 646 (by decide +kernel) (by decide +kernel)), (by decide +kernel), (by decide +kernel), (by decide +kernel)⟩
theorem cb_X1_layLists : Cb yX1_layLists cX1_layLists 5 (Option.none : Option FieldType) 2 := ⟨(tb_in 69 (by decide +kernel) (by decide +kernel)), (tb_in 633 (by decide +kernel) (by decide +kernel)), (by decide +kernel), (by decide +kernel), (by decide +kernel)⟩
theorem cb_X1_layPair : Cb yX1_layPair cX1_layPair 5 (Option.some FieldType.boolean) 2 := ⟨(tb_in 69 (by decide +kernel) (by decide +kernel)), (tb_in 693 (by decide +kernel) (by decide +kernel)), (by decide +kernel), (by decide +kernel), (by decide +kernel)⟩
theorem cb_X1_layTie : Cb yX1_layTie cX1_layTie 3 (Option.some FieldType.boolean) 1 := ⟨(tb_in 69 (by decide +kernel) (by decide +kernel)), (tb_in 688 (by decide +kernel) (by decide +kernel)), (by decide +kernel), (by decide +kernel), (by decide +kernel)⟩
theorem cb_X1_layTies : Cb yX1_layTies cX1_layTies 3 (Option.some FieldType.boolean) 1 := ⟨(tb_in 69 (by decide +kernel) (by decide +kernel)), (tb_in 676 (by decide +kernel) (by decide +kernel)), (by decide +kernel), (by decide +kernel), (by decide +kernel)⟩
theorem cb_X1_openness : Cb yX1_openness cX1_openness 3 (Option.some FieldType.int) 0 := ⟨(tb_in 69 (by decide +kernel) (by decide +kernel)), (tb_in 798 (by decide +kernel) (by decide +kernel)), (by decide +kernel), (by decide +kernel), (by decide +kernel)⟩
theorem cb_X1_pointOf : Cb yX1_pointOf cX1_pointOf 2 (Option.some FieldType.int) 1 := ⟨(tb_in 69 (by decide +kernel) (by decide +kernel)), (tb_in 723 (by decide +kernel) (by decide +kernel)), (by decide +kernel), (by decide +kernel), (by decide +kernel)⟩
theorem cb_X1_takeForks : Cb yX1_takeForks cX1_takeForks 6 (Option.some FieldType.boolean) 1 := ⟨(tb_in 69 (by decide +kernel) (by decide +kernel)), (tb_in 706 (by decide +kernel) (by decide +kernel)), (by decide +kernel), (by decide +kernel), (by decide +kernel)⟩
theorem cb_X1_tryYears : Cb yX1_tryYears cX1_tryYears 6 (Option.none : Option FieldType) 1 := ⟨(tb_in 69 (by decide +kernel) (by decide +kernel)), (tb_in 711 (by decide +kernel) (by decide +kernel)), (by decide +kernel), (by decide +kernel), (by decide +kernel)⟩
theorem cb_X1_widen : Cb yX1_widen cX1_widen 9 (Option.none : Option FieldType) 2 := ⟨(tb_in 69 (by decide +kernel) (by decide +kernel)), (tb_in 736 (by decide +kernel) (by decide +kernel)), (by decide +kernel), (by decide +kernel), (by decide +kernel)⟩
theorem cb_X1_yearsOf : Cb yX1_yearsOf cX1_yearsOf 2 (Option.some FieldType.int) 1 := ⟨(tb_in 69 (by decide +kernel) (by decide +kernel)), (tb_in 715 (by decide +kernel) (by decide +kernel)), (by decide +kernel), (by decide +kernel), (by decide +kernel)⟩
theorem cb_X2_after : Cb yX2_after cX2_after 2 (Option.some FieldType.int) 1 := ⟨(tb_in 68 (by decide +kernel) (by decide +kernel)), (tb_in 512 (by decide +kernel) (by decide +kernel)), (by decide +kernel), (by decide +kernel), (by decide +kernel)⟩
theorem cb_X2_afterFactorBegins : Cb yX2_afterFactorBegins cX2_afterFactorBegins 1 (Option.some FieldType.int) 1 := ⟨(tb_in 68 (by decide +kernel) (by decide +kernel)), (tb_in 515 (by decide +kernel) (by decide +kernel)), (by decide +kernel), (by decide +kernel), (by decide +kernel)⟩
theorem cb_X2_afterFactorEnds : Cb yX2_afterFactorEnds cX2_afterFactorEnds 2 (Option.some FieldType.int) 1 := ⟨(tb_in 68 (by decide +kernel) (by decide +kernel)), (tb_in 522 (by decide +kernel) (by decide +kernel)), (by decide +kernel), (by decide +kernel), (by decide +kernel)⟩
theorem cb_X2_byteOf : Cb yX2_byteOf cX2_byteOf 3 (Option.some FieldType.int) 2 := ⟨(tb_in 68 (by decide +kernel) (by decide +kernel)), (tb_in 477 (by decide +kernel) (by decide +kernel)), (by decide +kernel), (by decide +kernel), (by decide +kernel)⟩
theorem cb_X2_digestOn : Cb yX2_digestOn cX2_digestOn 6 (Option.some FieldType.long) 1 := ⟨(tb_in 68 (by decide +kernel) (by decide +kernel)), (tb_in 897 (by decide +kernel) (by decide +kernel)), (by decide +kernel), (by decide +kernel), (by decide +kernel)⟩
theorem cb_X2_firstFault : Cb yX2_firstFault cX2_firstFault 3 (Option.some FieldType.int) 0 := ⟨(tb_in 68 (by decide +kernel) (by decide +kernel)), (tb_in 503 (by decide +kernel) (by decide +kernel)), (by decide +kernel), (by decide +kernel), (by decide +kernel)⟩
theorem cb_X2_isDigit : Cb yX2_isDigit cX2_isDigit 1 (Option.some FieldType.boolean) 1 := ⟨(tb_in 68 (by decide +kernel) (by decide +kernel)), (tb_in 518 (by decide +kernel) (by decide +kernel)), (by decide +kernel), (by decide +kernel), (by decide +kernel)⟩
theorem cb_X2_isText : Cb yX2_isText cX2_isText 1 (Option.some FieldType.boolean) 0 := ⟨(tb_in 68 (by decide +kernel) (by decide +kernel)), (tb_in 533 (by decide +kernel) (by decide +kernel)), (by decide +kernel), (by decide +kernel), (by decide +kernel)⟩
theorem cb_X2_letterAt : Cb yX2_letterAt cX2_letterAt 2 (Option.some FieldType.int) 1 := ⟨(tb_in 68 (by decide +kernel) (by decide +kernel)), (tb_in 507 (by decide +kernel) (by decide +kernel)), (by decide +kernel), (by decide +kernel), (by decide +kernel)⟩
theorem cb_X2_lettersIn : Cb yX2_lettersIn cX2_lettersIn 5 (Option.some FieldType.int) 1 := ⟨(tb_in 68 (by decide +kernel) (by decide +kernel)), (tb_in 474 (by decide +kernel) (by decide +kernel)), (by decide +kernel), (by decide +kernel), (by decide +kernel)⟩
theorem cb_X2_size : Cb yX2_size cX2_size 1 (Option.some FieldType.int) 0 := ⟨(tb_in 68 (by decide +kernel) (by decide +kernel)), (tb_in 482 (by decide +kernel) (by decide +kernel)), (by decide +kernel), (by decide +kernel), (by decide +kernel)⟩
theorem cb_X2_wipe : Cb yX2_wipe cX2_wipe 2 (Option.some FieldType.int) 0 := ⟨(tb_in 68 (by decide +kernel) (by decide +kernel)), (tb_in 495 (by decide +kernel) (by decide +kernel)), (by decide +kernel), (by decide +kernel), (by decide +kernel)⟩
theorem cb_X2_write : Cb yX2_write cX2_write 5 (Option.some FieldType.int) 2 := ⟨(tb_in 68 (by decide +kernel) (by decide +kernel)), (tb_in 486 (by decide +kernel) (by decide +kernel)), (by decide +kernel), (by decide +kernel), (by decide +kernel)⟩
theorem cb_X3_add : Cb yX3_add cX3_add 7 (Option.some FieldType.int) 5 := ⟨(tb_in 64 (by decide +kernel) (by decide +kernel)), (tb_in 330 (by decide +kernel) (by decide +kernel)), (by decide +kernel), (by decide +kernel), (by decide +kernel)⟩
theorem cb_X3_counted : Cb yX3_counted cX3_counted 3 (Option.some FieldType.int) 2 := ⟨(tb_in 64 (by decide +kernel) (by decide +kernel)), (tb_in 361 (by decide +kernel) (by decide +kernel)), (by decide +kernel), (by decide +kernel), (by decide +kernel)⟩
theorem cb_X3_digestOn : Cb yX3_digestOn cX3_digestOn 7 (Option.some FieldType.long) 1 := ⟨(tb_in 64 (by decide +kernel) (by decide +kernel)), (tb_in 872 (by decide +kernel) (by decide +kernel)), (by decide +kernel), (by decide +kernel), (by decide +kernel)⟩
theorem cb_X3_fact : Cb yX3_fact cX3_fact 3 (Option.some FieldType.int) 2 := ⟨(tb_in 64 (by decide +kernel) (by decide +kernel)), (tb_in 319 (by decide +kernel) (by decide +kernel)), (by decide +kernel), (by decide +kernel), (by decide +kernel)⟩
theorem cb_X3_has : Cb yX3_has cX3_has 2 (Option.some FieldType.boolean) 1 := ⟨(tb_in 64 (by decide +kernel) (by decide +kernel)), (tb_in 315 (by decide +kernel) (by decide +kernel)), (by decide +kernel), (by decide +kernel), (by decide +kernel)⟩
theorem cb_X3_hasRoomFor : Cb yX3_hasRoomFor cX3_hasRoomFor 2 (Option.some FieldType.boolean) 1 := ⟨(tb_in 64 (by decide +kernel) (by decide +kernel)), (tb_in 323 (by decide +kernel) (by decide +kernel)), (by decide +kernel), (by decide +kernel), (by decide +kernel)⟩
theorem cb_X3_isKnown : Cb yX3_isKnown cX3_isKnown 3 (Option.some FieldType.boolean) 2 := ⟨(tb_in 64 (by decide +kernel) (by decide +kernel)), (tb_in 311 (by decide +kernel) (by decide +kernel)), (by decide +kernel), (by decide +kernel), (by decide +kernel)⟩
theorem cb_X3_isMisread : Cb yX3_isMisread cX3_isMisread 2 (Option.some FieldType.boolean) 1 := ⟨(tb_in 64 (by decide +kernel) (by decide +kernel)), (tb_in 379 (by decide +kernel) (by decide +kernel)), (by decide +kernel), (by decide +kernel), (by decide +kernel)⟩
theorem cb_X3_isOf : Cb yX3_isOf cX3_isOf 2 (Option.some FieldType.boolean) 2 := ⟨(tb_in 64 (by decide +kernel) (by decide +kernel)), (tb_in 326 (by decide +kernel) (by decide +kernel)), (by decide +kernel), (by decide +kernel), (by decide +kernel)⟩
theorem cb_X3_isToldBehind : Cb yX3_isToldBehind cX3_isToldBehind 7 (Option.some FieldType.boolean) 3 := ⟨(tb_in 64 (by decide +kernel) (by decide +kernel)), (tb_in 847 (by decide +kernel) (by decide +kernel)), (by decide +kernel), (by decide +kernel), (by decide +kernel)⟩
theorem cb_X3_knownBits : Cb yX3_knownBits cX3_knownBits 4 (Option.some FieldType.int) 1 := ⟨(tb_in 64 (by decide +kernel) (by decide +kernel)), (tb_in 790 (by decide +kernel) (by decide +kernel)), (by decide +kernel), (by decide +kernel), (by decide +kernel)⟩
theorem cb_X3_lastOf : Cb yX3_lastOf cX3_lastOf 2 (Option.some FieldType.int) 1 := ⟨(tb_in 64 (by decide +kernel) (by decide +kernel)), (tb_in 304 (by decide +kernel) (by decide +kernel)), (by decide +kernel), (by decide +kernel), (by decide +kernel)⟩
theorem cb_X3_lengths : Cb yX3_lengths cX3_lengths 4 (Option.some FieldType.int) 2 := ⟨(tb_in 64 (by decide +kernel) (by decide +kernel)), (tb_in 353 (by decide +kernel) (by decide +kernel)), (by decide +kernel), (by decide +kernel), (by decide +kernel)⟩
theorem cb_X3_longest : Cb yX3_longest cX3_longest 3 (Option.some FieldType.int) 2 := ⟨(tb_in 64 (by decide +kernel) (by decide +kernel)), (tb_in 357 (by decide +kernel) (by decide +kernel)), (by decide +kernel), (by decide +kernel), (by decide +kernel)⟩
theorem cb_X3_otherReading : Cb yX3_otherReading cX3_otherReading 4 (Option.some FieldType.int) 2 := ⟨(tb_in 64 (by decide +kernel) (by decide +kernel)), (tb_in 365 (by decide +kernel) (by decide +kernel)), (by decide +kernel), (by decide +kernel), (by decide +kernel)⟩
theorem cb_X3_overlap : Cb yX3_overlap cX3_overlap 2 (Option.some FieldType.int) 1 := ⟨(tb_in 64 (by decide +kernel) (by decide +kernel)), (tb_in 389 (by decide +kernel) (by decide +kernel)), (by decide +kernel), (by decide +kernel), (by decide +kernel)⟩
theorem cb_X3_renumber : Cb yX3_renumber cX3_renumber 4 (Option.some FieldType.int) 2 := ⟨(tb_in 64 (by decide +kernel) (by decide +kernel)), (tb_in 393 (by decide +kernel) (by decide +kernel)), (by decide +kernel), (by decide +kernel), (by decide +kernel)⟩
theorem cb_X3_retell : Cb yX3_retell cX3_retell 4 (Option.some FieldType.int) 2 := ⟨(tb_in 64 (by decide +kernel) (by decide +kernel)), (tb_in 835 (by decide +kernel) (by decide +kernel)), (by decide +kernel), (by decide +kernel), (by decide +kernel)⟩
theorem cb_X3_shortest : Cb yX3_shortest cX3_shortest 3 (Option.some FieldType.int) 2 := ⟨(tb_in 64 (by decide +kernel) (by decide +kernel)), (tb_in 372 (by decide +kernel) (by decide +kernel)), (by decide +kernel), (by decide +kernel), (by decide +kernel)⟩
theorem cb_X3_size : Cb yX3_size cX3_size 1 (Option.some FieldType.int) 0 := ⟨(tb_in 64 (by decide +kernel) (by decide +kernel)), (tb_in 629 (by decide +kernel) (by decide +kernel)), (by decide +kernel), (by decide +kernel), (by decide +kernel)⟩
theorem cb_X3_spreadInLands : Cb yX3_spreadInLands cX3_spreadInLands 7 (Option.some FieldType.int) 2 := ⟨(tb_in 64 (by decide +kernel) (by decide +kernel)), (tb_in 785 (by decide +kernel) (by decide +kernel)), (by decide +kernel), (by decide +kernel), (by decide +kernel)⟩
theorem cb_X3_toldYear : Cb yX3_toldYear cX3_toldYear 2 (Option.some FieldType.int) 1 := ⟨(tb_in 64 (by decide +kernel) (by decide +kernel)), (tb_in 839 (by decide +kernel) (by decide +kernel)), (by decide +kernel), (by decide +kernel), (by decide +kernel)⟩
theorem cb_X4_isFull : Cb yX4_isFull cX4_isFull 1 (Option.some FieldType.boolean) 0 := ⟨(tb_in 66 (by decide +kernel) (by decide +kernel)), (tb_in 542 (by decide +kernel) (by decide +kernel)), (by decide +kernel), (by decide +kernel), (by decide +kernel)⟩
theorem cb_X4_learn : Cb yX4_learn cX4_learn 3 (Option.some FieldType.int) 1 := ⟨(tb_in 66 (by decide +kernel) (by decide +kernel)), (tb_in 546 (by decide +kernel) (by decide +kernel)), (by decide +kernel), (by decide +kernel), (by decide +kernel)⟩
theorem cb_X4_says : Cb yX4_says cX4_says 7 (Option.some FieldType.int) 3 := ⟨(tb_in 66 (by decide +kernel) (by decide +kernel)), (tb_in 577 (by decide +kernel) (by decide +kernel)), (by decide +kernel), (by decide +kernel), (by decide +kernel)⟩
theorem cb_X4_size : Cb yX4_size cX4_size 1 (Option.some FieldType.int) 0 := ⟨(tb_in 66 (by decide +kernel) (by decide +kernel)), (tb_in 557 (by decide +kernel) (by decide +kernel)), (by decide +kernel), (by decide +kernel), (by decide +kernel)⟩
theorem cb_X4_unlearn : Cb yX4_unlearn cX4_unlearn 1 (Option.some FieldType.int) 0 := ⟨(tb_in 66 (by decide +kernel) (by decide +kernel)), (tb_in 561 (by decide +kernel) (by decide +kernel)), (by decide +kernel), (by decide +kernel), (by decide +kernel)⟩
theorem cb_X5_begin : Cb yX5_begin cX5_begin 1 (Option.none : Option FieldType) 0 := ⟨(tb_in 67 (by decide +kernel) (by decide +kernel)), (tb_in 587 (by decide +kernel) (by decide +kernel)), (by decide +kernel), (by decide +kernel), (by decide +kernel)⟩
theorem cb_X5_compared : Cb yX5_compared cX5_compared 3 (Option.some FieldType.long) 3 := ⟨(tb_in 67 (by decide +kernel) (by decide +kernel)), (tb_in 606 (by decide +kernel) (by decide +kernel)), (by decide +kernel), (by decide +kernel), (by decide +kernel)⟩
theorem cb_X5_end : Cb yX5_end cX5_end 3 (Option.some FieldType.long) 0 := ⟨(tb_in 67 (by decide +kernel) (by decide +kernel)), (tb_in 591 (by decide +kernel) (by decide +kernel)), (by decide +kernel), (by decide +kernel), (by decide +kernel)⟩
theorem cb_X5_meets : Cb yX5_meets cX5_meets 8 (Option.some FieldType.boolean) 3 := ⟨(tb_in 67 (by decide +kernel) (by decide +kernel)), (tb_in 582 (by decide +kernel) (by decide +kernel)), (by decide +kernel), (by decide +kernel), (by decide +kernel)⟩
theorem cb_X5_numberOf : Cb yX5_numberOf cX5_numberOf 3 (Option.some FieldType.int) 2 := ⟨(tb_in 67 (by decide +kernel) (by decide +kernel)), (tb_in 599 (by decide +kernel) (by decide +kernel)), (by decide +kernel), (by decide +kernel), (by decide +kernel)⟩
theorem cb_X5_set : Cb yX5_set cX5_set 5 (Option.none : Option FieldType) 4 := ⟨(tb_in 67 (by decide +kernel) (by decide +kernel)), (tb_in 573 (by decide +kernel) (by decide +kernel)), (by decide +kernel), (by decide +kernel), (by decide +kernel)⟩
theorem cb_X5_take : Cb yX5_take cX5_take 3 (Option.none : Option FieldType) 1 := ⟨(tb_in 67 (by decide +kernel) (by decide +kernel)), (tb_in 595 (by decide +kernel) (by decide +kernel)), (by decide +kernel), (by decide +kernel), (by decide +kernel)⟩
theorem cb_X5_valueOf : Cb yX5_valueOf cX5_valueOf 2 (Option.some FieldType.int) 1 := ⟨(tb_in 67 (by decide +kernel) (by decide +kernel)), (tb_in 603 (by decide +kernel) (by decide +kernel)), (by decide +kernel), (by decide +kernel), (by decide +kernel)⟩
theorem cb_X6_add : Cb yX6_add cX6_add 9 (Option.some FieldType.int) 7 := ⟨(tb_in 65 (by decide +kernel) (by decide +kernel)), (tb_in 412 (by decide +kernel) (by decide +kernel)), (by decide +kernel), (by decide +kernel), (by decide +kernel)⟩
theorem cb_X6_addRing : Cb yX6_addRing cX6_addRing 5 (Option.some FieldType.int) 4 := ⟨(tb_in 65 (by decide +kernel) (by decide +kernel)), (tb_in 437 (by decide +kernel) (by decide +kernel)), (by decide +kernel), (by decide +kernel), (by decide +kernel)⟩
theorem cb_X6_addSky : Cb yX6_addSky cX6_addSky 7 (Option.some FieldType.int) 6 := ⟨(tb_in 65 (by decide +kernel) (by decide +kernel)), (tb_in 428 (by decide +kernel) (by decide +kernel)), (by decide +kernel), (by decide +kernel), (by decide +kernel)⟩
theorem cb_X6_areSkiesFull : Cb yX6_areSkiesFull cX6_areSkiesFull 1 (Option.some FieldType.boolean) 0 := ⟨(tb_in 65 (by decide +kernel) (by decide +kernel)), (tb_in 424 (by decide +kernel) (by decide +kernel)), (by decide +kernel), (by decide +kernel), (by decide +kernel)⟩
theorem cb_X6_beginning : Cb yX6_beginning cX6_beginning 3 (Option.some FieldType.int) 2 := ⟨(tb_in 65 (by decide +kernel) (by decide +kernel)), (tb_in 701 (by decide +kernel) (by decide +kernel)), (by decide +kernel), (by decide +kernel), (by decide +kernel)⟩
theorem cb_X6_digestOn : Cb yX6_digestOn cX6_digestOn 7 (Option.some FieldType.long) 1 := ⟨(tb_in 65 (by decide +kernel) (by decide +kernel)), (tb_in 877 (by decide +kernel) (by decide +kernel)), (by decide +kernel), (by decide +kernel), (by decide +kernel)⟩
theorem cb_X6_digestPairsOn : Cb yX6_digestPairsOn cX6_digestPairsOn 7 (Option.some FieldType.long) 1 := ⟨(tb_in 65 (by decide +kernel) (by decide +kernel)), (tb_in 893 (by decide +kernel) (by decide +kernel)), (by decide +kernel), (by decide +kernel), (by decide +kernel)⟩
theorem cb_X6_drop : Cb yX6_drop cX6_drop 1 (Option.some FieldType.int) 0 := ⟨(tb_in 65 (by decide +kernel) (by decide +kernel)), (tb_in 466 (by decide +kernel) (by decide +kernel)), (by decide +kernel), (by decide +kernel), (by decide +kernel)⟩
theorem cb_X6_fact : Cb yX6_fact cX6_fact 3 (Option.some FieldType.int) 2 := ⟨(tb_in 65 (by decide +kernel) (by decide +kernel)), (tb_in 453 (by decide +kernel) (by decide +kernel)), (by decide +kernel), (by decide +kernel), (by decide +kernel)⟩
theorem cb_X6_has : Cb yX6_has cX6_has 2 (Option.some FieldType.boolean) 1 := ⟨(tb_in 65 (by decide +kernel) (by decide +kernel)), (tb_in 449 (by decide +kernel) (by decide +kernel)), (by decide +kernel), (by decide +kernel), (by decide +kernel)⟩
theorem cb_X6_holdsAsTold : Cb yX6_holdsAsTold cX6_holdsAsTold 5 (Option.some FieldType.boolean) 2 := ⟨(tb_in 65 (by decide +kernel) (by decide +kernel)), (tb_in 853 (by decide +kernel) (by decide +kernel)), (by decide +kernel), (by decide +kernel), (by decide +kernel)⟩
theorem cb_X6_isFull : Cb yX6_isFull cX6_isFull 1 (Option.some FieldType.boolean) 0 := ⟨(tb_in 65 (by decide +kernel) (by decide +kernel)), (tb_in 408 (by decide +kernel) (by decide +kernel)), (by decide +kernel), (by decide +kernel), (by decide +kernel)⟩
theorem cb_X6_isKnown : Cb yX6_isKnown cX6_isKnown 5 (Option.some FieldType.boolean) 3 := ⟨(tb_in 65 (by decide +kernel) (by decide +kernel)), (tb_in 667 (by decide +kernel) (by decide +kernel)), (by decide +kernel), (by decide +kernel), (by decide +kernel)⟩
theorem cb_X6_shift : Cb yX6_shift cX6_shift 2 (Option.some FieldType.int) 1 := ⟨(tb_in 65 (by decide +kernel) (by decide +kernel)), (tb_in 697 (by decide +kernel) (by decide +kernel)), (by decide +kernel), (by decide +kernel), (by decide +kernel)⟩
theorem cb_X6_size : Cb yX6_size cX6_size 1 (Option.some FieldType.int) 0 := ⟨(tb_in 65 (by decide +kernel) (by decide +kernel)), (tb_in 462 (by decide +kernel) (by decide +kernel)), (by decide +kernel), (by decide +kernel), (by decide +kernel)⟩
theorem cb_X6_spread : Cb yX6_spread cX6_spread 7 (Option.some FieldType.int) 2 := ⟨(tb_in 65 (by decide +kernel) (by decide +kernel)), (tb_in 781 (by decide +kernel) (by decide +kernel)), (by decide +kernel), (by decide +kernel), (by decide +kernel)⟩
theorem cb_X6_year : Cb yX6_year cX6_year 3 (Option.some FieldType.int) 2 := ⟨(tb_in 65 (by decide +kernel) (by decide +kernel)), (tb_in 882 (by decide +kernel) (by decide +kernel)), (by decide +kernel), (by decide +kernel), (by decide +kernel)⟩
theorem cb_X7_about : Cb yX7_about cX7_about 3 (Option.some FieldType.int) 2 := ⟨(tb_in 63 (by decide +kernel) (by decide +kernel)), (tb_in 338 (by decide +kernel) (by decide +kernel)), (by decide +kernel), (by decide +kernel), (by decide +kernel)⟩
theorem cb_X7_afloat : Cb yX7_afloat cX7_afloat 6 (Option.some FieldType.int) 2 := ⟨(tb_in 63 (by decide +kernel) (by decide +kernel)), (tb_in 777 (by decide +kernel) (by decide +kernel)), (by decide +kernel), (by decide +kernel), (by decide +kernel)⟩
theorem cb_X7_arePair : Cb yX7_arePair cX7_arePair 3 (Option.some FieldType.boolean) 2 := ⟨(tb_in 63 (by decide +kernel) (by decide +kernel)), (tb_in 401 (by decide +kernel) (by decide +kernel)), (by decide +kernel), (by decide +kernel), (by decide +kernel)⟩
theorem cb_X7_arePlaces : Cb yX7_arePlaces cX7_arePlaces 2 (Option.some FieldType.boolean) 2 := ⟨(tb_in 63 (by decide +kernel) (by decide +kernel)), (tb_in 404 (by decide +kernel) (by decide +kernel)), (by decide +kernel), (by decide +kernel), (by decide +kernel)⟩
theorem cb_X7_as : Cb yX7_as cX7_as 3 (Option.some FieldType.int) 2 := ⟨(tb_in 63 (by decide +kernel) (by decide +kernel)), (tb_in 344 (by decide +kernel) (by decide +kernel)), (by decide +kernel), (by decide +kernel), (by decide +kernel)⟩
theorem cb_X7_at : Cb yX7_at cX7_at 2 (Option.some FieldType.int) 2 := ⟨(tb_in 63 (by decide +kernel) (by decide +kernel)), (tb_in 307 (by decide +kernel) (by decide +kernel)), (by decide +kernel), (by decide +kernel), (by decide +kernel)⟩
theorem cb_X7_beliefFor : Cb yX7_beliefFor cX7_beliefFor 3 (Option.some FieldType.int) 2 := ⟨(tb_in 63 (by decide +kernel) (by decide +kernel)), (tb_in 614 (by decide +kernel) (by decide +kernel)), (by decide +kernel), (by decide +kernel), (by decide +kernel)⟩
theorem cb_X7_believedBy : Cb yX7_believedBy cX7_believedBy 5 (Option.some FieldType.int) 2 := ⟨(tb_in 63 (by decide +kernel) (by decide +kernel)), (tb_in 663 (by decide +kernel) (by decide +kernel)), (by decide +kernel), (by decide +kernel), (by decide +kernel)⟩
theorem cb_X7_believes : Cb yX7_believes cX7_believes 3 (Option.some FieldType.int) 2 := ⟨(tb_in 63 (by decide +kernel) (by decide +kernel)), (tb_in 610 (by decide +kernel) (by decide +kernel)), (by decide +kernel), (by decide +kernel), (by decide +kernel)⟩
theorem cb_X7_best : Cb yX7_best cX7_best 10 (Option.some FieldType.int) 2 := ⟨(tb_in 63 (by decide +kernel) (by decide +kernel)), (tb_in 827 (by decide +kernel) (by decide +kernel)), (by decide +kernel), (by decide +kernel), (by decide +kernel)⟩
theorem cb_X7_blank : Cb yX7_blank cX7_blank 1 (Option.some FieldType.int) 0 := ⟨(tb_in 63 (by decide +kernel) (by decide +kernel)), (tb_in 491 (by decide +kernel) (by decide +kernel)), (by decide +kernel), (by decide +kernel), (by decide +kernel)⟩
theorem cb_X7_can : Cb yX7_can cX7_can 4 (Option.some FieldType.int) 2 := ⟨(tb_in 63 (by decide +kernel) (by decide +kernel)), (tb_in 618 (by decide +kernel) (by decide +kernel)), (by decide +kernel), (by decide +kernel), (by decide +kernel)⟩
theorem cb_X7_closes : Cb yX7_closes cX7_closes 6 (Option.some FieldType.int) 3 := ⟨(tb_in 63 (by decide +kernel) (by decide +kernel)), (tb_in 819 (by decide +kernel) (by decide +kernel)), (by decide +kernel), (by decide +kernel), (by decide +kernel)⟩
theorem cb_X7_count : Cb yX7_count cX7_count 2 (Option.some FieldType.int) 1 := ⟨(tb_in 63 (by decide +kernel) (by decide +kernel)), (tb_in 863 (by decide +kernel) (by decide +kernel)), (by decide +kernel), (by decide +kernel), (by decide +kernel)⟩
theorem cb_X7_countFor : Cb yX7_countFor cX7_countFor 3 (Option.some FieldType.int) 2 := ⟨(tb_in 63 (by decide +kernel) (by decide +kernel)), (tb_in 569 (by decide +kernel) (by decide +kernel)), (by decide +kernel), (by decide +kernel), (by decide +kernel)⟩
theorem cb_X7_counts : Cb yX7_counts cX7_counts 3 (Option.some FieldType.int) 2 := ⟨(tb_in 63 (by decide +kernel) (by decide +kernel)), (tb_in 565 (by decide +kernel) (by decide +kernel)), (by decide +kernel), (by decide +kernel), (by decide +kernel)⟩
theorem cb_X7_digest : Cb yX7_digest cX7_digest 4 (Option.some FieldType.long) 0 := ⟨(tb_in 63 (by decide +kernel) (by decide +kernel)), (tb_in 867 (by decide +kernel) (by decide +kernel)), (by decide +kernel), (by decide +kernel), (by decide +kernel)⟩
theorem cb_X7_doubt : Cb yX7_doubt cX7_doubt 5 (Option.some FieldType.int) 3 := ⟨(tb_in 63 (by decide +kernel) (by decide +kernel)), (tb_in 759 (by decide +kernel) (by decide +kernel)), (by decide +kernel), (by decide +kernel), (by decide +kernel)⟩
theorem cb_X7_doubted : Cb yX7_doubted cX7_doubted 8 (Option.some FieldType.int) 2 := ⟨(tb_in 63 (by decide +kernel) (by decide +kernel)), (tb_in 763 (by decide +kernel) (by decide +kernel)), (by decide +kernel), (by decide +kernel), (by decide +kernel)⟩
theorem cb_X7_fault : Cb yX7_fault cX7_fault 1 (Option.some FieldType.int) 0 := ⟨(tb_in 63 (by decide +kernel) (by decide +kernel)), (tb_in 499 (by decide +kernel) (by decide +kernel)), (by decide +kernel), (by decide +kernel), (by decide +kernel)⟩
theorem cb_X7_floats : Cb yX7_floats cX7_floats 4 (Option.some FieldType.int) 2 := ⟨(tb_in 63 (by decide +kernel) (by decide +kernel)), (tb_in 773 (by decide +kernel) (by decide +kernel)), (by decide +kernel), (by decide +kernel), (by decide +kernel)⟩
theorem cb_X7_gain : Cb yX7_gain cX7_gain 5 (Option.some FieldType.int) 4 := ⟨(tb_in 63 (by decide +kernel) (by decide +kernel)), (tb_in 823 (by decide +kernel) (by decide +kernel)), (by decide +kernel), (by decide +kernel), (by decide +kernel)⟩
theorem cb_X7_held : Cb yX7_held cX7_held 6 (Option.some FieldType.int) 4 := ⟨(tb_in 63 (by decide +kernel) (by decide +kernel)), (tb_in 751 (by decide +kernel) (by decide +kernel)), (by decide +kernel), (by decide +kernel), (by decide +kernel)⟩
theorem cb_X7_holders : Cb yX7_holders cX7_holders 8 (Option.some FieldType.int) 3 := ⟨(tb_in 63 (by decide +kernel) (by decide +kernel)), (tb_in 755 (by decide +kernel) (by decide +kernel)), (by decide +kernel), (by decide +kernel), (by decide +kernel)⟩
theorem cb_X7_isSchool : Cb yX7_isSchool cX7_isSchool 1 (Option.some FieldType.boolean) 1 := ⟨(tb_in 63 (by decide +kernel) (by decide +kernel)), (tb_in 529 (by decide +kernel) (by decide +kernel)), (by decide +kernel), (by decide +kernel), (by decide +kernel)⟩
theorem cb_X7_isYear : Cb yX7_isYear cX7_isYear 1 (Option.some FieldType.boolean) 1 := ⟨(tb_in 63 (by decide +kernel) (by decide +kernel)), (tb_in 420 (by decide +kernel) (by decide +kernel)), (by decide +kernel), (by decide +kernel), (by decide +kernel)⟩
theorem cb_X7_judge : Cb yX7_judge cX7_judge 4 (Option.some FieldType.int) 1 := ⟨(tb_in 63 (by decide +kernel) (by decide +kernel)), (tb_in 843 (by decide +kernel) (by decide +kernel)), (by decide +kernel), (by decide +kernel), (by decide +kernel)⟩
theorem cb_X7_lasts : Cb yX7_lasts cX7_lasts 4 (Option.some FieldType.int) 3 := ⟨(tb_in 63 (by decide +kernel) (by decide +kernel)), (tb_in 349 (by decide +kernel) (by decide +kernel)), (by decide +kernel), (by decide +kernel), (by decide +kernel)⟩
theorem cb_X7_lay : Cb yX7_lay cX7_lay 5 (Option.some FieldType.int) 2 := ⟨(tb_in 63 (by decide +kernel) (by decide +kernel)), (tb_in 625 (by decide +kernel) (by decide +kernel)), (by decide +kernel), (by decide +kernel), (by decide +kernel)⟩
theorem cb_X7_letter : Cb yX7_letter cX7_letter 6 (Option.some FieldType.int) 5 := ⟨(tb_in 63 (by decide +kernel) (by decide +kernel)), (tb_in 441 (by decide +kernel) (by decide +kernel)), (by decide +kernel), (by decide +kernel), (by decide +kernel)⟩
theorem cb_X7_letters : Cb yX7_letters cX7_letters 4 (Option.some FieldType.int) 1 := ⟨(tb_in 63 (by decide +kernel) (by decide +kernel)), (tb_in 471 (by decide +kernel) (by decide +kernel)), (by decide +kernel), (by decide +kernel), (by decide +kernel)⟩
theorem cb_X7_number : Cb yX7_number cX7_number 3 (Option.some FieldType.int) 2 := ⟨(tb_in 63 (by decide +kernel) (by decide +kernel)), (tb_in 385 (by decide +kernel) (by decide +kernel)), (by decide +kernel), (by decide +kernel), (by decide +kernel)⟩
theorem cb_X7_open : Cb yX7_open cX7_open 4 (Option.some FieldType.int) 2 := ⟨(tb_in 63 (by decide +kernel) (by decide +kernel)), (tb_in 794 (by decide +kernel) (by decide +kernel)), (by decide +kernel), (by decide +kernel), (by decide +kernel)⟩
theorem cb_X7_part : Cb yX7_part cX7_part 1 (Option.some FieldType.int) 0 := ⟨(tb_in 63 (by decide +kernel) (by decide +kernel)), (tb_in 803 (by decide +kernel) (by decide +kernel)), (by decide +kernel), (by decide +kernel), (by decide +kernel)⟩
theorem cb_X7_put : Cb yX7_put cX7_put 3 (Option.none : Option FieldType) 3 := ⟨(tb_in 63 (by decide +kernel) (by decide +kernel)), (tb_in 333 (by decide +kernel) (by decide +kernel)), (by decide +kernel), (by decide +kernel), (by decide +kernel)⟩
theorem cb_X7_refusal : Cb yX7_refusal cX7_refusal 2 (Option.some FieldType.int) 2 := ⟨(tb_in 63 (by decide +kernel) (by decide +kernel)), (tb_in 621 (by decide +kernel) (by decide +kernel)), (by decide +kernel), (by decide +kernel), (by decide +kernel)⟩
theorem cb_X7_reign : Cb yX7_reign cX7_reign 7 (Option.some FieldType.int) 5 := ⟨(tb_in 63 (by decide +kernel) (by decide +kernel)), (tb_in 299 (by decide +kernel) (by decide +kernel)), (by decide +kernel), (by decide +kernel), (by decide +kernel)⟩
theorem cb_X7_ring : Cb yX7_ring cX7_ring 5 (Option.some FieldType.int) 4 := ⟨(tb_in 63 (by decide +kernel) (by decide +kernel)), (tb_in 433 (by decide +kernel) (by decide +kernel)), (by decide +kernel), (by decide +kernel), (by decide +kernel)⟩
theorem cb_X7_sayingsDigest : Cb yX7_sayingsDigest cX7_sayingsDigest 7 (Option.some FieldType.long) 2 := ⟨(tb_in 63 (by decide +kernel) (by decide +kernel)), (tb_in 886 (by decide +kernel) (by decide +kernel)), (by decide +kernel), (by decide +kernel), (by decide +kernel)⟩
theorem cb_X7_schoolOf : Cb yX7_schoolOf cX7_schoolOf 2 (Option.some (FieldType.object "ReignLadders$School")) 1 := ⟨(tb_in 63 (by decide +kernel) (by decide +kernel)), (tb_in 538 (by decide +kernel) (by decide +kernel)), (by decide +kernel), (by decide +kernel), (by decide +kernel)⟩
theorem cb_X7_sky : Cb yX7_sky cX7_sky 7 (Option.some FieldType.int) 6 := ⟨(tb_in 63 (by decide +kernel) (by decide +kernel)), (tb_in 417 (by decide +kernel) (by decide +kernel)), (by decide +kernel), (by decide +kernel), (by decide +kernel)⟩
theorem cb_X7_span : Cb yX7_span cX7_span 6 (Option.some FieldType.int) 4 := ⟨(tb_in 63 (by decide +kernel) (by decide +kernel)), (tb_in 743 (by decide +kernel) (by decide +kernel)), (by decide +kernel), (by decide +kernel), (by decide +kernel)⟩
theorem cb_X7_strike : Cb yX7_strike cX7_strike 2 (Option.some FieldType.int) 1 := ⟨(tb_in 63 (by decide +kernel) (by decide +kernel)), (tb_in 553 (by decide +kernel) (by decide +kernel)), (by decide +kernel), (by decide +kernel), (by decide +kernel)⟩
theorem cb_X7_tell : Cb yX7_tell cX7_tell 3 (Option.some FieldType.int) 2 := ⟨(tb_in 63 (by decide +kernel) (by decide +kernel)), (tb_in 831 (by decide +kernel) (by decide +kernel)), (by decide +kernel), (by decide +kernel), (by decide +kernel)⟩
theorem cb_X7_text : Cb yX7_text cX7_text 3 (Option.some FieldType.int) 1 := ⟨(tb_in 63 (by decide +kernel) (by decide +kernel)), (tb_in 526 (by decide +kernel) (by decide +kernel)), (by decide +kernel), (by decide +kernel), (by decide +kernel)⟩
theorem cb_X7_tie : Cb yX7_tie cX7_tie 7 (Option.some FieldType.int) 6 := ⟨(tb_in 63 (by decide +kernel) (by decide +kernel)), (tb_in 397 (by decide +kernel) (by decide +kernel)), (by decide +kernel), (by decide +kernel), (by decide +kernel)⟩
theorem cb_X7_tied : Cb yX7_tied cX7_tied 3 (Option.some FieldType.int) 2 := ⟨(tb_in 63 (by decide +kernel) (by decide +kernel)), (tb_in 445 (by decide +kernel) (by decide +kernel)), (by decide +kernel), (by decide +kernel), (by decide +kernel)⟩
theorem cb_X7_undo : Cb yX7_undo cX7_undo 1 (Option.some FieldType.int) 0 := ⟨(tb_in 63 (by decide +kernel) (by decide +kernel)), (tb_in 458 (by decide +kernel) (by decide +kernel)), (by decide +kernel), (by decide +kernel), (by decide +kernel)⟩
theorem cb_X7_wish : Cb yX7_wish cX7_wish 6 (Option.some FieldType.int) 5 := ⟨(tb_in 63 (by decide +kernel) (by decide +kernel)), (tb_in 815 (by decide +kernel) (by decide +kernel)), (by decide +kernel), (by decide +kernel), (by decide +kernel)⟩
theorem cb_X7_within : Cb yX7_within cX7_within 3 (Option.some FieldType.boolean) 3 := ⟨(tb_in 63 (by decide +kernel) (by decide +kernel)), (tb_in 114 (by decide +kernel) (by decide +kernel)), (by decide +kernel), (by decide +kernel), (by decide +kernel)⟩
theorem cb_X8_about : Cb yX8_about cX8_about 3 (Option.some FieldType.int) 2 := ⟨(tb_in 71 (by decide +kernel) (by decide +kernel)), (tb_in 1031 (by decide +kernel) (by decide +kernel)), (by decide +kernel), (by decide +kernel), (by decide +kernel)⟩
theorem cb_X8_aboutOf : Cb yX8_aboutOf cX8_aboutOf 3 (Option.some FieldType.int) 2 := ⟨(tb_in 71 (by decide +kernel) (by decide +kernel)), (tb_in 1039 (by decide +kernel) (by decide +kernel)), (by decide +kernel), (by decide +kernel), (by decide +kernel)⟩
theorem cb_X8_as : Cb yX8_as cX8_as 3 (Option.some FieldType.int) 2 := ⟨(tb_in 71 (by decide +kernel) (by decide +kernel)), (tb_in 1043 (by decide +kernel) (by decide +kernel)), (by decide +kernel), (by decide +kernel), (by decide +kernel)⟩
theorem cb_X8_believes : Cb yX8_believes cX8_believes 3 (Option.some FieldType.int) 2 := ⟨(tb_in 71 (by decide +kernel) (by decide +kernel)), (tb_in 1171 (by decide +kernel) (by decide +kernel)), (by decide +kernel), (by decide +kernel), (by decide +kernel)⟩
theorem cb_X8_believesOf : Cb yX8_believesOf cX8_believesOf 3 (Option.some FieldType.int) 2 := ⟨(tb_in 71 (by decide +kernel) (by decide +kernel)), (tb_in 1175 (by decide +kernel) (by decide +kernel)), (by decide +kernel), (by decide +kernel), (by decide +kernel)⟩
theorem cb_X8_best : Cb yX8_best cX8_best 7 (Option.some FieldType.int) 2 := ⟨(tb_in 71 (by decide +kernel) (by decide +kernel)), (tb_in 1268 (by decide +kernel) (by decide +kernel)), (by decide +kernel), (by decide +kernel), (by decide +kernel)⟩
theorem cb_X8_bind : Cb yX8_bind cX8_bind 5 (Option.none : Option FieldType) 4 := ⟨(tb_in 71 (by decide +kernel) (by decide +kernel)), (tb_in 1200 (by decide +kernel) (by decide +kernel)), (by decide +kernel), (by decide +kernel), (by decide +kernel)⟩
theorem cb_X8_blank : Cb yX8_blank cX8_blank 2 (Option.some FieldType.int) 0 := ⟨(tb_in 71 (by decide +kernel) (by decide +kernel)), (tb_in 1114 (by decide +kernel) (by decide +kernel)), (by decide +kernel), (by decide +kernel), (by decide +kernel)⟩
theorem cb_X8_can : Cb yX8_can cX8_can 3 (Option.some FieldType.int) 2 := ⟨(tb_in 71 (by decide +kernel) (by decide +kernel)), (tb_in 1179 (by decide +kernel) (by decide +kernel)), (by decide +kernel), (by decide +kernel), (by decide +kernel)⟩
theorem cb_X8_closeWays : Cb yX8_closeWays cX8_closeWays 5 (Option.some FieldType.boolean) 0 := ⟨(tb_in 71 (by decide +kernel) (by decide +kernel)), (tb_in 1213 (by decide +kernel) (by decide +kernel)), (by decide +kernel), (by decide +kernel), (by decide +kernel)⟩
theorem cb_X8_closes : Cb yX8_closes cX8_closes 4 (Option.some FieldType.int) 3 := ⟨(tb_in 71 (by decide +kernel) (by decide +kernel)), (tb_in 1260 (by decide +kernel) (by decide +kernel)), (by decide +kernel), (by decide +kernel), (by decide +kernel)⟩
theorem cb_X8_closesOf : Cb yX8_closesOf cX8_closesOf 6 (Option.some FieldType.int) 3 := ⟨(tb_in 71 (by decide +kernel) (by decide +kernel)), (tb_in 1264 (by decide +kernel) (by decide +kernel)), (by decide +kernel), (by decide +kernel), (by decide +kernel)⟩
theorem cb_X8_come : Cb yX8_come cX8_come 8 (Option.some FieldType.int) 7 := ⟨(tb_in 71 (by decide +kernel) (by decide +kernel)), (tb_in 1078 (by decide +kernel) (by decide +kernel)), (by decide +kernel), (by decide +kernel), (by decide +kernel)⟩
theorem cb_X8_count : Cb yX8_count cX8_count 2 (Option.some FieldType.int) 1 := ⟨(tb_in 71 (by decide +kernel) (by decide +kernel)), (tb_in 1288 (by decide +kernel) (by decide +kernel)), (by decide +kernel), (by decide +kernel), (by decide +kernel)⟩
theorem cb_X8_counts : Cb yX8_counts cX8_counts 3 (Option.some FieldType.int) 2 := ⟨(tb_in 71 (by decide +kernel) (by decide +kernel)), (tb_in 1144 (by decide +kernel) (by decide +kernel)), (by decide +kernel), (by decide +kernel), (by decide +kernel)⟩
theorem cb_X8_countsOf : Cb yX8_countsOf cX8_countsOf 3 (Option.some FieldType.int) 2 := ⟨(tb_in 71 (by decide +kernel) (by decide +kernel)), (tb_in 1148 (by decide +kernel) (by decide +kernel)), (by decide +kernel), (by decide +kernel), (by decide +kernel)⟩
theorem cb_X8_digest : Cb yX8_digest cX8_digest 3 (Option.some FieldType.long) 0 := ⟨(tb_in 71 (by decide +kernel) (by decide +kernel)), (tb_in 1296 (by decide +kernel) (by decide +kernel)), (by decide +kernel), (by decide +kernel), (by decide +kernel)⟩
theorem cb_X8_doubt : Cb yX8_doubt cX8_doubt 10 (Option.some FieldType.int) 3 := ⟨(tb_in 71 (by decide +kernel) (by decide +kernel)), (tb_in 1229 (by decide +kernel) (by decide +kernel)), (by decide +kernel), (by decide +kernel), (by decide +kernel)⟩
theorem cb_X8_factor : Cb yX8_factor cX8_factor 2 (Option.none : Option FieldType) 1 := ⟨(tb_in 71 (by decide +kernel) (by decide +kernel)), (tb_in 1164 (by decide +kernel) (by decide +kernel)), (by decide +kernel), (by decide +kernel), (by decide +kernel)⟩
theorem cb_X8_fault : Cb yX8_fault cX8_fault 1 (Option.some FieldType.int) 0 := ⟨(tb_in 71 (by decide +kernel) (by decide +kernel)), (tb_in 1118 (by decide +kernel) (by decide +kernel)), (by decide +kernel), (by decide +kernel), (by decide +kernel)⟩
theorem cb_X8_floats : Cb yX8_floats cX8_floats 3 (Option.some FieldType.int) 2 := ⟨(tb_in 71 (by decide +kernel) (by decide +kernel)), (tb_in 1236 (by decide +kernel) (by decide +kernel)), (by decide +kernel), (by decide +kernel), (by decide +kernel)⟩
theorem cb_X8_floatsOf : Cb yX8_floatsOf cX8_floatsOf 9 (Option.some FieldType.int) 2 := ⟨(tb_in 71 (by decide +kernel) (by decide +kernel)), (tb_in 1240 (by decide +kernel) (by decide +kernel)), (by decide +kernel), (by decide +kernel), (by decide +kernel)⟩
theorem cb_X8_held : Cb yX8_held cX8_held 9 (Option.some FieldType.int) 4 := ⟨(tb_in 71 (by decide +kernel) (by decide +kernel)), (tb_in 1225 (by decide +kernel) (by decide +kernel)), (by decide +kernel), (by decide +kernel), (by decide +kernel)⟩
theorem cb_X8_holds : Cb yX8_holds cX8_holds 7 (Option.some FieldType.boolean) 1 := ⟨(tb_in 71 (by decide +kernel) (by decide +kernel)), (tb_in 1156 (by decide +kernel) (by decide +kernel)), (by decide +kernel), (by decide +kernel), (by decide +kernel)⟩
theorem cb_X8_holdsTold : Cb yX8_holdsTold cX8_holdsTold 4 (Option.some FieldType.boolean) 1 := ⟨(tb_in 71 (by decide +kernel) (by decide +kernel)), (tb_in 1284 (by decide +kernel) (by decide +kernel)), (by decide +kernel), (by decide +kernel), (by decide +kernel)⟩
theorem cb_X8_howMany : Cb yX8_howMany cX8_howMany 2 (Option.some FieldType.int) 1 := ⟨(tb_in 71 (by decide +kernel) (by decide +kernel)), (tb_in 1292 (by decide +kernel) (by decide +kernel)), (by decide +kernel), (by decide +kernel), (by decide +kernel)⟩
theorem cb_X8_isEdition : Cb yX8_isEdition cX8_isEdition 1 (Option.some FieldType.boolean) 1 := ⟨(tb_in 71 (by decide +kernel) (by decide +kernel)), (tb_in 1020 (by decide +kernel) (by decide +kernel)), (by decide +kernel), (by decide +kernel), (by decide +kernel)⟩
theorem cb_X8_isKnown : Cb yX8_isKnown cX8_isKnown 3 (Option.some FieldType.boolean) 2 := ⟨(tb_in 71 (by decide +kernel) (by decide +kernel)), (tb_in 1187 (by decide +kernel) (by decide +kernel)), (by decide +kernel), (by decide +kernel), (by decide +kernel)⟩
theorem cb_X8_isMisread : Cb yX8_isMisread cX8_isMisread 1 (Option.some FieldType.boolean) 1 := ⟨(tb_in 71 (by decide +kernel) (by decide +kernel)), (tb_in 1027 (by decide +kernel) (by decide +kernel)), (by decide +kernel), (by decide +kernel), (by decide +kernel)⟩
theorem cb_X8_isName : Cb yX8_isName cX8_isName 1 (Option.some FieldType.boolean) 1 := ⟨(tb_in 71 (by decide +kernel) (by decide +kernel)), (tb_in 1129 (by decide +kernel) (by decide +kernel)), (by decide +kernel), (by decide +kernel), (by decide +kernel)⟩
theorem cb_X8_isReign : Cb yX8_isReign cX8_isReign 2 (Option.some FieldType.boolean) 1 := ⟨(tb_in 71 (by decide +kernel) (by decide +kernel)), (tb_in 1035 (by decide +kernel) (by decide +kernel)), (by decide +kernel), (by decide +kernel), (by decide +kernel)⟩
theorem cb_X8_isSchool : Cb yX8_isSchool cX8_isSchool 1 (Option.some FieldType.boolean) 1 := ⟨(tb_in 71 (by decide +kernel) (by decide +kernel)), (tb_in 1136 (by decide +kernel) (by decide +kernel)), (by decide +kernel), (by decide +kernel), (by decide +kernel)⟩
theorem cb_X8_isTie : Cb yX8_isTie cX8_isTie 2 (Option.some FieldType.boolean) 1 := ⟨(tb_in 71 (by decide +kernel) (by decide +kernel)), (tb_in 1101 (by decide +kernel) (by decide +kernel)), (by decide +kernel), (by decide +kernel), (by decide +kernel)⟩
theorem cb_X8_isXth : Cb yX8_isXth cX8_isXth 1 (Option.some FieldType.boolean) 1 := ⟨(tb_in 71 (by decide +kernel) (by decide +kernel)), (tb_in 1074 (by decide +kernel) (by decide +kernel)), (by decide +kernel), (by decide +kernel), (by decide +kernel)⟩
theorem cb_X8_isYear : Cb yX8_isYear cX8_isYear 1 (Option.some FieldType.boolean) 1 := ⟨(tb_in 71 (by decide +kernel) (by decide +kernel)), (tb_in 1085 (by decide +kernel) (by decide +kernel)), (by decide +kernel), (by decide +kernel), (by decide +kernel)⟩
theorem cb_X8_judge : Cb yX8_judge cX8_judge 5 (Option.some FieldType.int) 1 := ⟨(tb_in 71 (by decide +kernel) (by decide +kernel)), (tb_in 1276 (by decide +kernel) (by decide +kernel)), (by decide +kernel), (by decide +kernel), (by decide +kernel)⟩
theorem cb_X8_lastOf : Cb yX8_lastOf cX8_lastOf 4 (Option.some FieldType.int) 1 := ⟨(tb_in 71 (by decide +kernel) (by decide +kernel)), (tb_in 1024 (by decide +kernel) (by decide +kernel)), (by decide +kernel), (by decide +kernel), (by decide +kernel)⟩
theorem cb_X8_lasts : Cb yX8_lasts cX8_lasts 4 (Option.some FieldType.int) 3 := ⟨(tb_in 71 (by decide +kernel) (by decide +kernel)), (tb_in 1047 (by decide +kernel) (by decide +kernel)), (by decide +kernel), (by decide +kernel), (by decide +kernel)⟩
theorem cb_X8_layChoice : Cb yX8_layChoice cX8_layChoice 10 (Option.some FieldType.boolean) 2 := ⟨(tb_in 71 (by decide +kernel) (by decide +kernel)), (tb_in 1195 (by decide +kernel) (by decide +kernel)), (by decide +kernel), (by decide +kernel), (by decide +kernel)⟩
theorem cb_X8_layTie : Cb yX8_layTie cX8_layTie 11 (Option.none : Option FieldType) 2 := ⟨(tb_in 71 (by decide +kernel) (by decide +kernel)), (tb_in 1208 (by decide +kernel) (by decide +kernel)), (by decide +kernel), (by decide +kernel), (by decide +kernel)⟩
theorem cb_X8_leastOf : Cb yX8_leastOf cX8_leastOf 5 (Option.some FieldType.int) 2 := ⟨(tb_in 71 (by decide +kernel) (by decide +kernel)), (tb_in 1051 (by decide +kernel) (by decide +kernel)), (by decide +kernel), (by decide +kernel), (by decide +kernel)⟩
theorem cb_X8_lengthsOf : Cb yX8_lengthsOf cX8_lengthsOf 4 (Option.some FieldType.int) 2 := ⟨(tb_in 71 (by decide +kernel) (by decide +kernel)), (tb_in 1063 (by decide +kernel) (by decide +kernel)), (by decide +kernel), (by decide +kernel), (by decide +kernel)⟩
theorem cb_X8_letter : Cb yX8_letter cX8_letter 6 (Option.some FieldType.int) 5 := ⟨(tb_in 71 (by decide +kernel) (by decide +kernel)), (tb_in 1093 (by decide +kernel) (by decide +kernel)), (by decide +kernel), (by decide +kernel), (by decide +kernel)⟩
theorem cb_X8_letters : Cb yX8_letters cX8_letters 7 (Option.some FieldType.int) 1 := ⟨(tb_in 71 (by decide +kernel) (by decide +kernel)), (tb_in 1109 (by decide +kernel) (by decide +kernel)), (by decide +kernel), (by decide +kernel), (by decide +kernel)⟩
theorem cb_X8_lies : Cb yX8_lies cX8_lies 3 (Option.some FieldType.boolean) 3 := ⟨(tb_in 71 (by decide +kernel) (by decide +kernel)), (tb_in 1017 (by decide +kernel) (by decide +kernel)), (by decide +kernel), (by decide +kernel), (by decide +kernel)⟩
theorem cb_X8_mayLast : Cb yX8_mayLast cX8_mayLast 4 (Option.some FieldType.boolean) 3 := ⟨(tb_in 71 (by decide +kernel) (by decide +kernel)), (tb_in 1280 (by decide +kernel) (by decide +kernel)), (by decide +kernel), (by decide +kernel), (by decide +kernel)⟩
theorem cb_X8_misreadAhead : Cb yX8_misreadAhead cX8_misreadAhead 4 (Option.some FieldType.int) 1 := ⟨(tb_in 71 (by decide +kernel) (by decide +kernel)), (tb_in 1204 (by decide +kernel) (by decide +kernel)), (by decide +kernel), (by decide +kernel), (by decide +kernel)⟩
theorem cb_X8_mix : Cb yX8_mix cX8_mix 3 (Option.none : Option FieldType) 1 := ⟨(tb_in 71 (by decide +kernel) (by decide +kernel)), (tb_in 1301 (by decide +kernel) (by decide +kernel)), (by decide +kernel), (by decide +kernel), (by decide +kernel)⟩
theorem cb_X8_mostOf : Cb yX8_mostOf cX8_mostOf 5 (Option.some FieldType.int) 2 := ⟨(tb_in 71 (by decide +kernel) (by decide +kernel)), (tb_in 1059 (by decide +kernel) (by decide +kernel)), (by decide +kernel), (by decide +kernel), (by decide +kernel)⟩
theorem cb_X8_next : Cb yX8_next cX8_next 5 (Option.some FieldType.int) 3 := ⟨(tb_in 71 (by decide +kernel) (by decide +kernel)), (tb_in 1126 (by decide +kernel) (by decide +kernel)), (by decide +kernel), (by decide +kernel), (by decide +kernel)⟩
theorem cb_X8_number : Cb yX8_number cX8_number 4 (Option.some FieldType.int) 2 := ⟨(tb_in 71 (by decide +kernel) (by decide +kernel)), (tb_in 1067 (by decide +kernel) (by decide +kernel)), (by decide +kernel), (by decide +kernel), (by decide +kernel)⟩
theorem cb_X8_ones : Cb yX8_ones cX8_ones 3 (Option.some FieldType.int) 1 := ⟨(tb_in 71 (by decide +kernel) (by decide +kernel)), (tb_in 1232 (by decide +kernel) (by decide +kernel)), (by decide +kernel), (by decide +kernel), (by decide +kernel)⟩
theorem cb_X8_open : Cb yX8_open cX8_open 3 (Option.some FieldType.int) 2 := ⟨(tb_in 71 (by decide +kernel) (by decide +kernel)), (tb_in 1244 (by decide +kernel) (by decide +kernel)), (by decide +kernel), (by decide +kernel), (by decide +kernel)⟩
theorem cb_X8_openGroup : Cb yX8_openGroup cX8_openGroup 1 (Option.none : Option FieldType) 0 := ⟨(tb_in 71 (by decide +kernel) (by decide +kernel)), (tb_in 1160 (by decide +kernel) (by decide +kernel)), (by decide +kernel), (by decide +kernel), (by decide +kernel)⟩
theorem cb_X8_openNow : Cb yX8_openNow cX8_openNow 4 (Option.some FieldType.int) 1 := ⟨(tb_in 71 (by decide +kernel) (by decide +kernel)), (tb_in 1248 (by decide +kernel) (by decide +kernel)), (by decide +kernel), (by decide +kernel), (by decide +kernel)⟩
theorem cb_X8_otherLength : Cb yX8_otherLength cX8_otherLength 4 (Option.some FieldType.int) 2 := ⟨(tb_in 71 (by decide +kernel) (by decide +kernel)), (tb_in 1055 (by decide +kernel) (by decide +kernel)), (by decide +kernel), (by decide +kernel), (by decide +kernel)⟩
theorem cb_X8_part : Cb yX8_part cX8_part 2 (Option.some FieldType.int) 0 := ⟨(tb_in 71 (by decide +kernel) (by decide +kernel)), (tb_in 1252 (by decide +kernel) (by decide +kernel)), (by decide +kernel), (by decide +kernel), (by decide +kernel)⟩
theorem cb_X8_placeOf : Cb yX8_placeOf cX8_placeOf 1 (Option.some FieldType.int) 1 := ⟨(tb_in 71 (by decide +kernel) (by decide +kernel)), (tb_in 1167 (by decide +kernel) (by decide +kernel)), (by decide +kernel), (by decide +kernel), (by decide +kernel)⟩
theorem cb_X8_readText : Cb yX8_readText cX8_readText 6 (Option.none : Option FieldType) 0 := ⟨(tb_in 71 (by decide +kernel) (by decide +kernel)), (tb_in 1122 (by decide +kernel) (by decide +kernel)), (by decide +kernel), (by decide +kernel), (by decide +kernel)⟩
theorem cb_X8_reign : Cb yX8_reign cX8_reign 9 (Option.some FieldType.int) 5 := ⟨(tb_in 71 (by decide +kernel) (by decide +kernel)), (tb_in 1014 (by decide +kernel) (by decide +kernel)), (by decide +kernel), (by decide +kernel), (by decide +kernel)⟩
theorem cb_X8_ring : Cb yX8_ring cX8_ring 6 (Option.some FieldType.int) 4 := ⟨(tb_in 71 (by decide +kernel) (by decide +kernel)), (tb_in 1089 (by decide +kernel) (by decide +kernel)), (by decide +kernel), (by decide +kernel), (by decide +kernel)⟩
theorem cb_X8_saysOf : Cb yX8_saysOf cX8_saysOf 6 (Option.some FieldType.int) 3 := ⟨(tb_in 71 (by decide +kernel) (by decide +kernel)), (tb_in 1152 (by decide +kernel) (by decide +kernel)), (by decide +kernel), (by decide +kernel), (by decide +kernel)⟩
theorem cb_X8_sky : Cb yX8_sky cX8_sky 9 (Option.some FieldType.int) 6 := ⟨(tb_in 71 (by decide +kernel) (by decide +kernel)), (tb_in 1082 (by decide +kernel) (by decide +kernel)), (by decide +kernel), (by decide +kernel), (by decide +kernel)⟩
theorem cb_X8_solve : Cb yX8_solve cX8_solve 9 (Option.none : Option FieldType) 4 := ⟨(tb_in 71 (by decide +kernel) (by decide +kernel)), (tb_in 1191 (by decide +kernel) (by decide +kernel)), (by decide +kernel), (by decide +kernel), (by decide +kernel)⟩
theorem cb_X8_span : Cb yX8_span cX8_span 5 (Option.some FieldType.int) 4 := ⟨(tb_in 71 (by decide +kernel) (by decide +kernel)), (tb_in 1221 (by decide +kernel) (by decide +kernel)), (by decide +kernel), (by decide +kernel), (by decide +kernel)⟩
theorem cb_X8_strike : Cb yX8_strike cX8_strike 2 (Option.some FieldType.int) 1 := ⟨(tb_in 71 (by decide +kernel) (by decide +kernel)), (tb_in 1140 (by decide +kernel) (by decide +kernel)), (by decide +kernel), (by decide +kernel), (by decide +kernel)⟩
theorem cb_X8_take : Cb yX8_take cX8_take 5 (Option.none : Option FieldType) 1 := ⟨(tb_in 71 (by decide +kernel) (by decide +kernel)), (tb_in 1217 (by decide +kernel) (by decide +kernel)), (by decide +kernel), (by decide +kernel), (by decide +kernel)⟩
theorem cb_X8_tell : Cb yX8_tell cX8_tell 4 (Option.some FieldType.int) 2 := ⟨(tb_in 71 (by decide +kernel) (by decide +kernel)), (tb_in 1272 (by decide +kernel) (by decide +kernel)), (by decide +kernel), (by decide +kernel), (by decide +kernel)⟩
theorem cb_X8_text : Cb yX8_text cX8_text 4 (Option.some FieldType.int) 1 := ⟨(tb_in 71 (by decide +kernel) (by decide +kernel)), (tb_in 1133 (by decide +kernel) (by decide +kernel)), (by decide +kernel), (by decide +kernel), (by decide +kernel)⟩
theorem cb_X8_tie : Cb yX8_tie cX8_tie 7 (Option.some FieldType.int) 6 := ⟨(tb_in 71 (by decide +kernel) (by decide +kernel)), (tb_in 1071 (by decide +kernel) (by decide +kernel)), (by decide +kernel), (by decide +kernel), (by decide +kernel)⟩
theorem cb_X8_tied : Cb yX8_tied cX8_tied 3 (Option.some FieldType.int) 2 := ⟨(tb_in 71 (by decide +kernel) (by decide +kernel)), (tb_in 1097 (by decide +kernel) (by decide +kernel)), (by decide +kernel), (by decide +kernel), (by decide +kernel)⟩
theorem cb_X8_tiesOf : Cb yX8_tiesOf cX8_tiesOf 6 (Option.some FieldType.int) 2 := ⟨(tb_in 71 (by decide +kernel) (by decide +kernel)), (tb_in 1183 (by decide +kernel) (by decide +kernel)), (by decide +kernel), (by decide +kernel), (by decide +kernel)⟩
theorem cb_X8_undo : Cb yX8_undo cX8_undo 1 (Option.some FieldType.int) 0 := ⟨(tb_in 71 (by decide +kernel) (by decide +kernel)), (tb_in 1105 (by decide +kernel) (by decide +kernel)), (by decide +kernel), (by decide +kernel), (by decide +kernel)⟩
theorem cb_X8_wish : Cb yX8_wish cX8_wish 6 (Option.some FieldType.int) 5 := ⟨(tb_in 71 (by decide +kernel) (by decide +kernel)), (tb_in 1256 (by decide +kernel) (by decide +kernel)), (by decide +kernel), (by decide +kernel), (by decide +kernel)⟩
theorem cs_X7_65 : Cs RX7 65 yX7_within cX7_within 3 (Option.some FieldType.boolean) 3 := ⟨cb_X7_within, (tb_in 300 (by decide +kernel) (by decide +kernel)), (tb_in 113 (by decide +kernel) (by decide +kernel))⟩
theorem cv_X7_69 : Cv RX7 69 yX3_lastOf cX3_lastOf 2 (Option.some FieldType.int) 1 := ⟨cb_X3_lastOf, (tb_in 301 (by decide +kernel) (by decide +kernel)), (tb_in 302 (by decide +kernel) (by decide +kernel)), (tb_in 303 (by decide +kernel) (by decide +kernel))⟩
theorem cv_X7_73 : Cv RX7 73 yX3_isKnown cX3_isKnown 3 (Option.some FieldType.boolean) 2 := ⟨cb_X3_isKnown, (tb_in 308 (by decide +kernel) (by decide +kernel)), (tb_in 309 (by decide +kernel) (by decide +kernel)), (tb_in 310 (by decide +kernel) (by decide +kernel))⟩
theorem cv_X7_77 : Cv RX7 77 yX3_hasRoomFor cX3_hasRoomFor 2 (Option.some FieldType.boolean) 1 := ⟨cb_X3_hasRoomFor, (tb_in 320 (by decide +kernel) (by decide +kernel)), (tb_in 321 (by decide +kernel) (by decide +kernel)), (tb_in 322 (by decide +kernel) (by decide +kernel))⟩
theorem cv_X7_81 : Cv RX7 81 yX3_add cX3_add 7 (Option.some FieldType.int) 5 := ⟨cb_X3_add, (tb_in 327 (by decide +kernel) (by decide +kernel)), (tb_in 328 (by decide +kernel) (by decide +kernel)), (tb_in 329 (by decide +kernel) (by decide +kernel))⟩
theorem cv_X7_85 : Cv RX7 85 yX3_has cX3_has 2 (Option.some FieldType.boolean) 1 := ⟨cb_X3_has, (tb_in 339 (by decide +kernel) (by decide +kernel)), (tb_in 313 (by decide +kernel) (by decide +kernel)), (tb_in 314 (by decide +kernel) (by decide +kernel))⟩
theorem cv_X7_88 : Cv RX7 88 yX3_fact cX3_fact 3 (Option.some FieldType.int) 2 := ⟨cb_X3_fact, (tb_in 340 (by decide +kernel) (by decide +kernel)), (tb_in 317 (by decide +kernel) (by decide +kernel)), (tb_in 318 (by decide +kernel) (by decide +kernel))⟩
theorem cs_X7_92 : Cs RX7 92 yX3_isOf cX3_isOf 2 (Option.some FieldType.boolean) 2 := ⟨cb_X3_isOf, (tb_in 345 (by decide +kernel) (by decide +kernel)), (tb_in 325 (by decide +kernel) (by decide +kernel))⟩
theorem cv_X7_95 : Cv RX7 95 yX3_lengths cX3_lengths 4 (Option.some FieldType.int) 2 := ⟨cb_X3_lengths, (tb_in 350 (by decide +kernel) (by decide +kernel)), (tb_in 351 (by decide +kernel) (by decide +kernel)), (tb_in 352 (by decide +kernel) (by decide +kernel))⟩
theorem cv_X7_98 : Cv RX7 98 yX3_shortest cX3_shortest 3 (Option.some FieldType.int) 2 := ⟨cb_X3_shortest, (tb_in 380 (by decide +kernel) (by decide +kernel)), (tb_in 370 (by decide +kernel) (by decide +kernel)), (tb_in 371 (by decide +kernel) (by decide +kernel))⟩
theorem cv_X7_101 : Cv RX7 101 yX3_longest cX3_longest 3 (Option.some FieldType.int) 2 := ⟨cb_X3_longest, (tb_in 381 (by decide +kernel) (by decide +kernel)), (tb_in 355 (by decide +kernel) (by decide +kernel)), (tb_in 356 (by decide +kernel) (by decide +kernel))⟩
theorem cv_X7_104 : Cv RX7 104 yX3_overlap cX3_overlap 2 (Option.some FieldType.int) 1 := ⟨cb_X3_overlap, (tb_in 386 (by decide +kernel) (by decide +kernel)), (tb_in 387 (by decide +kernel) (by decide +kernel)), (tb_in 388 (by decide +kernel) (by decide +kernel))⟩
theorem cv_X7_107 : Cv RX7 107 yX3_renumber cX3_renumber 4 (Option.some FieldType.int) 2 := ⟨cb_X3_renumber, (tb_in 390 (by decide +kernel) (by decide +kernel)), (tb_in 391 (by decide +kernel) (by decide +kernel)), (tb_in 392 (by decide +kernel) (by decide +kernel))⟩
theorem cv_X7_110 : Cv RX7 110 yX7_arePair cX7_arePair 3 (Option.some FieldType.boolean) 2 := ⟨cb_X7_arePair, (tb_in 398 (by decide +kernel) (by decide +kernel)), (tb_in 400 (by decide +kernel) (by decide +kernel)), (tb_in 2 (by decide +kernel) (by decide +kernel))⟩
theorem cs_X7_113 : Cs RX7 113 yX7_arePlaces cX7_arePlaces 2 (Option.some FieldType.boolean) 2 := ⟨cb_X7_arePlaces, (tb_in 402 (by decide +kernel) (by decide +kernel)), (tb_in 403 (by decide +kernel) (by decide +kernel))⟩
theorem cv_X7_116 : Cv RX7 116 yX6_isFull cX6_isFull 1 (Option.some FieldType.boolean) 0 := ⟨cb_X6_isFull, (tb_in 405 (by decide +kernel) (by decide +kernel)), (tb_in 406 (by decide +kernel) (by decide +kernel)), (tb_in 407 (by decide +kernel) (by decide +kernel))⟩
theorem cv_X7_120 : Cv RX7 120 yX6_add cX6_add 9 (Option.some FieldType.int) 7 := ⟨cb_X6_add, (tb_in 409 (by decide +kernel) (by decide +kernel)), (tb_in 410 (by decide +kernel) (by decide +kernel)), (tb_in 411 (by decide +kernel) (by decide +kernel))⟩
theorem cs_X7_123 : Cs RX7 123 yX7_isYear cX7_isYear 1 (Option.some FieldType.boolean) 1 := ⟨cb_X7_isYear, (tb_in 418 (by decide +kernel) (by decide +kernel)), (tb_in 419 (by decide +kernel) (by decide +kernel))⟩
theorem cv_X7_126 : Cv RX7 126 yX6_areSkiesFull cX6_areSkiesFull 1 (Option.some FieldType.boolean) 0 := ⟨cb_X6_areSkiesFull, (tb_in 421 (by decide +kernel) (by decide +kernel)), (tb_in 422 (by decide +kernel) (by decide +kernel)), (tb_in 423 (by decide +kernel) (by decide +kernel))⟩
theorem cv_X7_129 : Cv RX7 129 yX6_addSky cX6_addSky 7 (Option.some FieldType.int) 6 := ⟨cb_X6_addSky, (tb_in 425 (by decide +kernel) (by decide +kernel)), (tb_in 426 (by decide +kernel) (by decide +kernel)), (tb_in 427 (by decide +kernel) (by decide +kernel))⟩
theorem cv_X7_133 : Cv RX7 133 yX6_addRing cX6_addRing 5 (Option.some FieldType.int) 4 := ⟨cb_X6_addRing, (tb_in 434 (by decide +kernel) (by decide +kernel)), (tb_in 435 (by decide +kernel) (by decide +kernel)), (tb_in 436 (by decide +kernel) (by decide +kernel))⟩
theorem cv_X7_137 : Cv RX7 137 yX6_has cX6_has 2 (Option.some FieldType.boolean) 1 := ⟨cb_X6_has, (tb_in 446 (by decide +kernel) (by decide +kernel)), (tb_in 447 (by decide +kernel) (by decide +kernel)), (tb_in 448 (by decide +kernel) (by decide +kernel))⟩
theorem cv_X7_138 : Cv RX7 138 yX6_fact cX6_fact 3 (Option.some FieldType.int) 2 := ⟨cb_X6_fact, (tb_in 450 (by decide +kernel) (by decide +kernel)), (tb_in 451 (by decide +kernel) (by decide +kernel)), (tb_in 452 (by decide +kernel) (by decide +kernel))⟩
theorem cv_X7_139 : Cv RX7 139 yX6_size cX6_size 1 (Option.some FieldType.int) 0 := ⟨cb_X6_size, (tb_in 459 (by decide +kernel) (by decide +kernel)), (tb_in 460 (by decide +kernel) (by decide +kernel)), (tb_in 461 (by decide +kernel) (by decide +kernel))⟩
theorem cv_X7_143 : Cv RX7 143 yX6_drop cX6_drop 1 (Option.some FieldType.int) 0 := ⟨cb_X6_drop, (tb_in 463 (by decide +kernel) (by decide +kernel)), (tb_in 464 (by decide +kernel) (by decide +kernel)), (tb_in 465 (by decide +kernel) (by decide +kernel))⟩
theorem cs_X7_146 : Cs RX7 146 yX2_lettersIn cX2_lettersIn 5 (Option.some FieldType.int) 1 := ⟨cb_X2_lettersIn, (tb_in 472 (by decide +kernel) (by decide +kernel)), (tb_in 473 (by decide +kernel) (by decide +kernel))⟩
theorem cv_X7_150 : Cv RX7 150 yX2_size cX2_size 1 (Option.some FieldType.int) 0 := ⟨cb_X2_size, (tb_in 479 (by decide +kernel) (by decide +kernel)), (tb_in 480 (by decide +kernel) (by decide +kernel)), (tb_in 481 (by decide +kernel) (by decide +kernel))⟩
theorem cv_X7_151 : Cv RX7 151 yX2_write cX2_write 5 (Option.some FieldType.int) 2 := ⟨cb_X2_write, (tb_in 483 (by decide +kernel) (by decide +kernel)), (tb_in 484 (by decide +kernel) (by decide +kernel)), (tb_in 485 (by decide +kernel) (by decide +kernel))⟩
theorem cv_X7_155 : Cv RX7 155 yX2_wipe cX2_wipe 2 (Option.some FieldType.int) 0 := ⟨cb_X2_wipe, (tb_in 492 (by decide +kernel) (by decide +kernel)), (tb_in 493 (by decide +kernel) (by decide +kernel)), (tb_in 494 (by decide +kernel) (by decide +kernel))⟩
theorem cv_X7_158 : Cv RX7 158 yX2_firstFault cX2_firstFault 3 (Option.some FieldType.int) 0 := ⟨cb_X2_firstFault, (tb_in 500 (by decide +kernel) (by decide +kernel)), (tb_in 501 (by decide +kernel) (by decide +kernel)), (tb_in 502 (by decide +kernel) (by decide +kernel))⟩
theorem cs_X7_161 : Cs RX7 161 yX7_isSchool cX7_isSchool 1 (Option.some FieldType.boolean) 1 := ⟨cb_X7_isSchool, (tb_in 527 (by decide +kernel) (by decide +kernel)), (tb_in 528 (by decide +kernel) (by decide +kernel))⟩
theorem cv_X7_164 : Cv RX7 164 yX2_isText cX2_isText 1 (Option.some FieldType.boolean) 0 := ⟨cb_X2_isText, (tb_in 530 (by decide +kernel) (by decide +kernel)), (tb_in 531 (by decide +kernel) (by decide +kernel)), (tb_in 532 (by decide +kernel) (by decide +kernel))⟩
theorem cv_X7_167 : Cv RX7 167 yX7_schoolOf cX7_schoolOf 2 (Option.some (FieldType.object "ReignLadders$School")) 1 := ⟨cb_X7_schoolOf, (tb_in 535 (by decide +kernel) (by decide +kernel)), (tb_in 537 (by decide +kernel) (by decide +kernel)), (tb_in 5 (by decide +kernel) (by decide +kernel))⟩
theorem cv_X7_171 : Cv RX7 171 yX4_isFull cX4_isFull 1 (Option.some FieldType.boolean) 0 := ⟨cb_X4_isFull, (tb_in 539 (by decide +kernel) (by decide +kernel)), (tb_in 540 (by decide +kernel) (by decide +kernel)), (tb_in 541 (by decide +kernel) (by decide +kernel))⟩
theorem cv_X7_172 : Cv RX7 172 yX4_learn cX4_learn 3 (Option.some FieldType.int) 1 := ⟨cb_X4_learn, (tb_in 543 (by decide +kernel) (by decide +kernel)), (tb_in 544 (by decide +kernel) (by decide +kernel)), (tb_in 545 (by decide +kernel) (by decide +kernel))⟩
theorem cv_X7_176 : Cv RX7 176 yX4_size cX4_size 1 (Option.some FieldType.int) 0 := ⟨cb_X4_size, (tb_in 554 (by decide +kernel) (by decide +kernel)), (tb_in 555 (by decide +kernel) (by decide +kernel)), (tb_in 556 (by decide +kernel) (by decide +kernel))⟩
theorem cv_X7_177 : Cv RX7 177 yX4_unlearn cX4_unlearn 1 (Option.some FieldType.int) 0 := ⟨cb_X4_unlearn, (tb_in 558 (by decide +kernel) (by decide +kernel)), (tb_in 559 (by decide +kernel) (by decide +kernel)), (tb_in 560 (by decide +kernel) (by decide +kernel))⟩
theorem cv_X7_180 : Cv RX7 180 yX7_countFor cX7_countFor 3 (Option.some FieldType.int) 2 := ⟨cb_X7_countFor, (tb_in 566 (by decide +kernel) (by decide +kernel)), (tb_in 568 (by decide +kernel) (by decide +kernel)), (tb_in 6 (by decide +kernel) (by decide +kernel))⟩
theorem cv_X7_183 : Cv RX7 183 yX7_beliefFor cX7_beliefFor 3 (Option.some FieldType.int) 2 := ⟨cb_X7_beliefFor, (tb_in 611 (by decide +kernel) (by decide +kernel)), (tb_in 613 (by decide +kernel) (by decide +kernel)), (tb_in 11 (by decide +kernel) (by decide +kernel))⟩
theorem cs_X7_186 : Cs RX7 186 yX7_refusal cX7_refusal 2 (Option.some FieldType.int) 2 := ⟨cb_X7_refusal, (tb_in 619 (by decide +kernel) (by decide +kernel)), (tb_in 620 (by decide +kernel) (by decide +kernel))⟩
theorem cv_X7_189 : Cv RX7 189 yX7_lay cX7_lay 5 (Option.some FieldType.int) 2 := ⟨cb_X7_lay, (tb_in 622 (by decide +kernel) (by decide +kernel)), (tb_in 624 (by decide +kernel) (by decide +kernel)), (tb_in 12 (by decide +kernel) (by decide +kernel))⟩
theorem cv_X7_192 : Cv RX7 192 yX1_find cX1_find 5 (Option.some FieldType.boolean) 3 := ⟨cb_X1_find, (tb_in 669 (by decide +kernel) (by decide +kernel)), (tb_in 670 (by decide +kernel) (by decide +kernel)), (tb_in 671 (by decide +kernel) (by decide +kernel))⟩
theorem cv_X7_196 : Cv RX7 196 yX1_end cX1_end 3 (Option.some FieldType.int) 2 := ⟨cb_X1_end, (tb_in 744 (by decide +kernel) (by decide +kernel)), (tb_in 745 (by decide +kernel) (by decide +kernel)), (tb_in 746 (by decide +kernel) (by decide +kernel))⟩
theorem cv_X7_199 : Cv RX7 199 yX7_holders cX7_holders 8 (Option.some FieldType.int) 3 := ⟨cb_X7_holders, (tb_in 752 (by decide +kernel) (by decide +kernel)), (tb_in 754 (by decide +kernel) (by decide +kernel)), (tb_in 24 (by decide +kernel) (by decide +kernel))⟩
theorem cv_X7_203 : Cv RX7 203 yX7_doubted cX7_doubted 8 (Option.some FieldType.int) 2 := ⟨cb_X7_doubted, (tb_in 760 (by decide +kernel) (by decide +kernel)), (tb_in 762 (by decide +kernel) (by decide +kernel)), (tb_in 25 (by decide +kernel) (by decide +kernel))⟩
theorem cv_X7_206 : Cv RX7 206 yX7_believedBy cX7_believedBy 5 (Option.some FieldType.int) 2 := ⟨cb_X7_believedBy, (tb_in 660 (by decide +kernel) (by decide +kernel)), (tb_in 662 (by decide +kernel) (by decide +kernel)), (tb_in 14 (by decide +kernel) (by decide +kernel))⟩
theorem cv_X7_209 : Cv RX7 209 yX7_afloat cX7_afloat 6 (Option.some FieldType.int) 2 := ⟨cb_X7_afloat, (tb_in 774 (by decide +kernel) (by decide +kernel)), (tb_in 776 (by decide +kernel) (by decide +kernel)), (tb_in 26 (by decide +kernel) (by decide +kernel))⟩
theorem cv_X7_212 : Cv RX7 212 yX1_openness cX1_openness 3 (Option.some FieldType.int) 0 := ⟨cb_X1_openness, (tb_in 795 (by decide +kernel) (by decide +kernel)), (tb_in 796 (by decide +kernel) (by decide +kernel)), (tb_in 797 (by decide +kernel) (by decide +kernel))⟩
theorem cv_X7_215 : Cv RX7 215 yX1_keepSpans cX1_keepSpans 2 (Option.none : Option FieldType) 0 := ⟨cb_X1_keepSpans, (tb_in 804 (by decide +kernel) (by decide +kernel)), (tb_in 805 (by decide +kernel) (by decide +kernel)), (tb_in 806 (by decide +kernel) (by decide +kernel))⟩
theorem cv_X7_218 : Cv RX7 218 yX1_firstUnlikeKept cX1_firstUnlikeKept 2 (Option.some FieldType.int) 0 := ⟨cb_X1_firstUnlikeKept, (tb_in 808 (by decide +kernel) (by decide +kernel)), (tb_in 809 (by decide +kernel) (by decide +kernel)), (tb_in 810 (by decide +kernel) (by decide +kernel))⟩
theorem cv_X7_221 : Cv RX7 221 yX7_gain cX7_gain 5 (Option.some FieldType.int) 4 := ⟨cb_X7_gain, (tb_in 820 (by decide +kernel) (by decide +kernel)), (tb_in 822 (by decide +kernel) (by decide +kernel)), (tb_in 27 (by decide +kernel) (by decide +kernel))⟩
theorem cv_X7_224 : Cv RX7 224 yX3_retell cX3_retell 4 (Option.some FieldType.int) 2 := ⟨cb_X3_retell, (tb_in 832 (by decide +kernel) (by decide +kernel)), (tb_in 833 (by decide +kernel) (by decide +kernel)), (tb_in 834 (by decide +kernel) (by decide +kernel))⟩
theorem cv_X7_227 : Cv RX7 227 yX3_size cX3_size 1 (Option.some FieldType.int) 0 := ⟨cb_X3_size, (tb_in 626 (by decide +kernel) (by decide +kernel)), (tb_in 627 (by decide +kernel) (by decide +kernel)), (tb_in 628 (by decide +kernel) (by decide +kernel))⟩
theorem cv_X7_228 : Cv RX7 228 yX3_isToldBehind cX3_isToldBehind 7 (Option.some FieldType.boolean) 3 := ⟨cb_X3_isToldBehind, (tb_in 844 (by decide +kernel) (by decide +kernel)), (tb_in 845 (by decide +kernel) (by decide +kernel)), (tb_in 846 (by decide +kernel) (by decide +kernel))⟩
theorem cv_X7_231 : Cv RX7 231 yX6_holdsAsTold cX6_holdsAsTold 5 (Option.some FieldType.boolean) 2 := ⟨cb_X6_holdsAsTold, (tb_in 850 (by decide +kernel) (by decide +kernel)), (tb_in 851 (by decide +kernel) (by decide +kernel)), (tb_in 852 (by decide +kernel) (by decide +kernel))⟩
theorem cv_X7_237 : Cv RX7 237 yX3_digestOn cX3_digestOn 7 (Option.some FieldType.long) 1 := ⟨cb_X3_digestOn, (tb_in 869 (by decide +kernel) (by decide +kernel)), (tb_in 870 (by decide +kernel) (by decide +kernel)), (tb_in 871 (by decide +kernel) (by decide +kernel))⟩
theorem cv_X7_241 : Cv RX7 241 yX6_digestOn cX6_digestOn 7 (Option.some FieldType.long) 1 := ⟨cb_X6_digestOn, (tb_in 874 (by decide +kernel) (by decide +kernel)), (tb_in 875 (by decide +kernel) (by decide +kernel)), (tb_in 876 (by decide +kernel) (by decide +kernel))⟩
theorem cv_X7_242 : Cv RX7 242 yX7_sayingsDigest cX7_sayingsDigest 7 (Option.some FieldType.long) 2 := ⟨cb_X7_sayingsDigest, (tb_in 883 (by decide +kernel) (by decide +kernel)), (tb_in 885 (by decide +kernel) (by decide +kernel)), (tb_in 28 (by decide +kernel) (by decide +kernel))⟩
theorem cv_X7_248 : Cv RX7 248 yX7_can cX7_can 4 (Option.some FieldType.int) 2 := ⟨cb_X7_can, (tb_in 888 (by decide +kernel) (by decide +kernel)), (tb_in 616 (by decide +kernel) (by decide +kernel)), (tb_in 617 (by decide +kernel) (by decide +kernel))⟩
theorem cv_X7_251 : Cv RX7 251 yX7_floats cX7_floats 4 (Option.some FieldType.int) 2 := ⟨cb_X7_floats, (tb_in 889 (by decide +kernel) (by decide +kernel)), (tb_in 771 (by decide +kernel) (by decide +kernel)), (tb_in 772 (by decide +kernel) (by decide +kernel))⟩
theorem cv_X7_254 : Cv RX7 254 yX6_digestPairsOn cX6_digestPairsOn 7 (Option.some FieldType.long) 1 := ⟨cb_X6_digestPairsOn, (tb_in 890 (by decide +kernel) (by decide +kernel)), (tb_in 891 (by decide +kernel) (by decide +kernel)), (tb_in 892 (by decide +kernel) (by decide +kernel))⟩
theorem cv_X7_257 : Cv RX7 257 yX2_digestOn cX2_digestOn 6 (Option.some FieldType.long) 1 := ⟨cb_X2_digestOn, (tb_in 894 (by decide +kernel) (by decide +kernel)), (tb_in 895 (by decide +kernel) (by decide +kernel)), (tb_in 896 (by decide +kernel) (by decide +kernel))⟩
theorem cv_X7_258 : Cv RX7 258 yX7_count cX7_count 2 (Option.some FieldType.int) 1 := ⟨cb_X7_count, (tb_in 899 (by decide +kernel) (by decide +kernel)), (tb_in 861 (by decide +kernel) (by decide +kernel)), (tb_in 862 (by decide +kernel) (by decide +kernel))⟩
theorem cv_X7_261 : Cv RX7 261 yX5_set cX5_set 5 (Option.none : Option FieldType) 4 := ⟨cb_X5_set, (tb_in 570 (by decide +kernel) (by decide +kernel)), (tb_in 571 (by decide +kernel) (by decide +kernel)), (tb_in 572 (by decide +kernel) (by decide +kernel))⟩
theorem cv_X7_265 : Cv RX7 265 yX4_says cX4_says 7 (Option.some FieldType.int) 3 := ⟨cb_X4_says, (tb_in 574 (by decide +kernel) (by decide +kernel)), (tb_in 575 (by decide +kernel) (by decide +kernel)), (tb_in 576 (by decide +kernel) (by decide +kernel))⟩
theorem cv_X7_269 : Cv RX7 269 yX6_isKnown cX6_isKnown 5 (Option.some FieldType.boolean) 3 := ⟨cb_X6_isKnown, (tb_in 664 (by decide +kernel) (by decide +kernel)), (tb_in 665 (by decide +kernel) (by decide +kernel)), (tb_in 666 (by decide +kernel) (by decide +kernel))⟩
theorem cv_X7_272 : Cv RX7 272 yX1_layLists cX1_layLists 5 (Option.none : Option FieldType) 2 := ⟨cb_X1_layLists, (tb_in 630 (by decide +kernel) (by decide +kernel)), (tb_in 631 (by decide +kernel) (by decide +kernel)), (tb_in 632 (by decide +kernel) (by decide +kernel))⟩
theorem cs_X7_276 : Cs RX7 276 yJ_bitCount cJ_bitCount 1 (Option.some FieldType.int) 1 := ⟨cb_J_bitCount, (tb_in 764 (by decide +kernel) (by decide +kernel)), (tb_in 765 (by decide +kernel) (by decide +kernel))⟩
theorem cv_X7_281 : Cv RX7 281 yX6_spread cX6_spread 7 (Option.some FieldType.int) 2 := ⟨cb_X6_spread, (tb_in 778 (by decide +kernel) (by decide +kernel)), (tb_in 779 (by decide +kernel) (by decide +kernel)), (tb_in 780 (by decide +kernel) (by decide +kernel))⟩
theorem cv_X7_284 : Cv RX7 284 yX3_spreadInLands cX3_spreadInLands 7 (Option.some FieldType.int) 2 := ⟨cb_X3_spreadInLands, (tb_in 782 (by decide +kernel) (by decide +kernel)), (tb_in 783 (by decide +kernel) (by decide +kernel)), (tb_in 784 (by decide +kernel) (by decide +kernel))⟩
theorem cv_X7_287 : Cv RX7 287 yX3_knownBits cX3_knownBits 4 (Option.some FieldType.int) 1 := ⟨cb_X3_knownBits, (tb_in 787 (by decide +kernel) (by decide +kernel)), (tb_in 788 (by decide +kernel) (by decide +kernel)), (tb_in 789 (by decide +kernel) (by decide +kernel))⟩
theorem cn_X0_19 : Cn RX0 19 yX7_within cX7_within 3 (Option.some FieldType.boolean) 3 := ⟨cb_X7_within, ⟨"ReignLadders", List.mem_of_getElem? (i := 11) (by decide +kernel)⟩, (tb_in 113 (by decide +kernel) (by decide +kernel))⟩
theorem cn_X0_23 : Cn RX0 23 yX7_put cX7_put 3 (Option.none : Option FieldType) 3 := ⟨cb_X7_put, ⟨"ReignLadders", List.mem_of_getElem? (i := 12) (by decide +kernel)⟩, (tb_in 332 (by decide +kernel) (by decide +kernel))⟩
theorem cn_X0_33 : Cn RX0 33 yX7_at cX7_at 2 (Option.some FieldType.int) 2 := ⟨cb_X7_at, ⟨"ReignLadders", List.mem_of_getElem? (i := 15) (by decide +kernel)⟩, (tb_in 306 (by decide +kernel) (by decide +kernel))⟩
theorem cv_X0_37 : Cv RX0 37 yX0_hold cX0_hold 10 (Option.some FieldType.boolean) 3 := ⟨cb_X0_hold, (tb_in 654 (by decide +kernel) (by decide +kernel)), (tb_in 655 (by decide +kernel) (by decide +kernel)), (tb_in 656 (by decide +kernel) (by decide +kernel))⟩
theorem cv_X0_40 : Cv RX0 40 yX0_most cX0_most 3 (Option.some FieldType.int) 2 := ⟨cb_X0_most, (tb_in 728 (by decide +kernel) (by decide +kernel)), (tb_in 729 (by decide +kernel) (by decide +kernel)), (tb_in 730 (by decide +kernel) (by decide +kernel))⟩
theorem cv_X1_74 : Cv RX1 74 yX3_size cX3_size 1 (Option.some FieldType.int) 0 := ⟨cb_X3_size, (tb_in 634 (by decide +kernel) (by decide +kernel)), (tb_in 627 (by decide +kernel) (by decide +kernel)), (tb_in 628 (by decide +kernel) (by decide +kernel))⟩
theorem cv_X1_80 : Cv RX1 80 yX0_clear cX0_clear 5 (Option.none : Option FieldType) 1 := ⟨cb_X0_clear, (tb_in 635 (by decide +kernel) (by decide +kernel)), (tb_in 636 (by decide +kernel) (by decide +kernel)), (tb_in 637 (by decide +kernel) (by decide +kernel))⟩
theorem cv_X1_84 : Cv RX1 84 yX3_fact cX3_fact 3 (Option.some FieldType.int) 2 := ⟨cb_X3_fact, (tb_in 641 (by decide +kernel) (by decide +kernel)), (tb_in 317 (by decide +kernel) (by decide +kernel)), (tb_in 318 (by decide +kernel) (by decide +kernel))⟩
theorem cv_X1_88 : Cv RX1 88 yX3_isKnown cX3_isKnown 3 (Option.some FieldType.boolean) 2 := ⟨cb_X3_isKnown, (tb_in 642 (by decide +kernel) (by decide +kernel)), (tb_in 309 (by decide +kernel) (by decide +kernel)), (tb_in 310 (by decide +kernel) (by decide +kernel))⟩
theorem cv_X1_92 : Cv RX1 92 yX1_layBehind cX1_layBehind 6 (Option.none : Option FieldType) 3 := ⟨cb_X1_layBehind, (tb_in 643 (by decide +kernel) (by decide +kernel)), (tb_in 645 (by decide +kernel) (by decide +kernel)), (tb_in 13 (by decide +kernel) (by decide +kernel))⟩
theorem cv_X1_96 : Cv RX1 96 yX3_shortest cX3_shortest 3 (Option.some FieldType.int) 2 := ⟨cb_X3_shortest, (tb_in 647 (by decide +kernel) (by decide +kernel)), (tb_in 370 (by decide +kernel) (by decide +kernel)), (tb_in 371 (by decide +kernel) (by decide +kernel))⟩
theorem cv_X1_99 : Cv RX1 99 yX3_overlap cX3_overlap 2 (Option.some FieldType.int) 1 := ⟨cb_X3_overlap, (tb_in 648 (by decide +kernel) (by decide +kernel)), (tb_in 387 (by decide +kernel) (by decide +kernel)), (tb_in 388 (by decide +kernel) (by decide +kernel))⟩
theorem cv_X1_103 : Cv RX1 103 yX3_longest cX3_longest 3 (Option.some FieldType.int) 2 := ⟨cb_X3_longest, (tb_in 649 (by decide +kernel) (by decide +kernel)), (tb_in 355 (by decide +kernel) (by decide +kernel)), (tb_in 356 (by decide +kernel) (by decide +kernel))⟩
theorem cv_X1_106 : Cv RX1 106 yX0_keep cX0_keep 5 (Option.some FieldType.boolean) 4 := ⟨cb_X0_keep, (tb_in 650 (by decide +kernel) (by decide +kernel)), (tb_in 651 (by decide +kernel) (by decide +kernel)), (tb_in 652 (by decide +kernel) (by decide +kernel))⟩
theorem cv_X1_110 : Cv RX1 110 yX3_isMisread cX3_isMisread 2 (Option.some FieldType.boolean) 1 := ⟨cb_X3_isMisread, (tb_in 658 (by decide +kernel) (by decide +kernel)), (tb_in 377 (by decide +kernel) (by decide +kernel)), (tb_in 378 (by decide +kernel) (by decide +kernel))⟩
theorem cn_X1_114 : Cn RX1 114 yX7_put cX7_put 3 (Option.none : Option FieldType) 3 := ⟨cb_X7_put, ⟨"ReignLadders", List.mem_of_getElem? (i := 13) (by decide +kernel)⟩, (tb_in 332 (by decide +kernel) (by decide +kernel))⟩
theorem cv_X1_118 : Cv RX1 118 yX1_layTies cX1_layTies 3 (Option.some FieldType.boolean) 1 := ⟨cb_X1_layTies, (tb_in 673 (by decide +kernel) (by decide +kernel)), (tb_in 675 (by decide +kernel) (by decide +kernel)), (tb_in 15 (by decide +kernel) (by decide +kernel))⟩
theorem cv_X1_121 : Cv RX1 121 yX1_layPair cX1_layPair 5 (Option.some FieldType.boolean) 2 := ⟨cb_X1_layPair, (tb_in 690 (by decide +kernel) (by decide +kernel)), (tb_in 692 (by decide +kernel) (by decide +kernel)), (tb_in 17 (by decide +kernel) (by decide +kernel))⟩
theorem cv_X1_125 : Cv RX1 125 yX0_copy cX0_copy 2 (Option.none : Option FieldType) 1 := ⟨cb_X0_copy, (tb_in 677 (by decide +kernel) (by decide +kernel)), (tb_in 678 (by decide +kernel) (by decide +kernel)), (tb_in 679 (by decide +kernel) (by decide +kernel))⟩
theorem cv_X1_129 : Cv RX1 129 yX1_takeForks cX1_takeForks 6 (Option.some FieldType.boolean) 1 := ⟨cb_X1_takeForks, (tb_in 703 (by decide +kernel) (by decide +kernel)), (tb_in 705 (by decide +kernel) (by decide +kernel)), (tb_in 18 (by decide +kernel) (by decide +kernel))⟩
theorem cv_X1_132 : Cv RX1 132 yX1_tryYears cX1_tryYears 6 (Option.none : Option FieldType) 1 := ⟨cb_X1_tryYears, (tb_in 708 (by decide +kernel) (by decide +kernel)), (tb_in 710 (by decide +kernel) (by decide +kernel)), (tb_in 19 (by decide +kernel) (by decide +kernel))⟩
theorem cv_X1_136 : Cv RX1 136 yX6_size cX6_size 1 (Option.some FieldType.int) 0 := ⟨cb_X6_size, (tb_in 684 (by decide +kernel) (by decide +kernel)), (tb_in 460 (by decide +kernel) (by decide +kernel)), (tb_in 461 (by decide +kernel) (by decide +kernel))⟩
theorem cv_X1_139 : Cv RX1 139 yX1_layTie cX1_layTie 3 (Option.some FieldType.boolean) 1 := ⟨cb_X1_layTie, (tb_in 685 (by decide +kernel) (by decide +kernel)), (tb_in 687 (by decide +kernel) (by decide +kernel)), (tb_in 16 (by decide +kernel) (by decide +kernel))⟩
theorem cv_X1_142 : Cv RX1 142 yX6_fact cX6_fact 3 (Option.some FieldType.int) 2 := ⟨cb_X6_fact, (tb_in 689 (by decide +kernel) (by decide +kernel)), (tb_in 451 (by decide +kernel) (by decide +kernel)), (tb_in 452 (by decide +kernel) (by decide +kernel))⟩
theorem cv_X1_143 : Cv RX1 143 yX6_beginning cX6_beginning 3 (Option.some FieldType.int) 2 := ⟨cb_X6_beginning, (tb_in 698 (by decide +kernel) (by decide +kernel)), (tb_in 699 (by decide +kernel) (by decide +kernel)), (tb_in 700 (by decide +kernel) (by decide +kernel))⟩
theorem cv_X1_146 : Cv RX1 146 yX0_hold cX0_hold 10 (Option.some FieldType.boolean) 3 := ⟨cb_X0_hold, (tb_in 702 (by decide +kernel) (by decide +kernel)), (tb_in 655 (by decide +kernel) (by decide +kernel)), (tb_in 656 (by decide +kernel) (by decide +kernel))⟩
theorem cv_X1_150 : Cv RX1 150 yX6_shift cX6_shift 2 (Option.some FieldType.int) 1 := ⟨cb_X6_shift, (tb_in 694 (by decide +kernel) (by decide +kernel)), (tb_in 695 (by decide +kernel) (by decide +kernel)), (tb_in 696 (by decide +kernel) (by decide +kernel))⟩
theorem cn_X1_153 : Cn RX1 153 yX7_at cX7_at 2 (Option.some FieldType.int) 2 := ⟨cb_X7_at, ⟨"ReignLadders", List.mem_of_getElem? (i := 14) (by decide +kernel)⟩, (tb_in 306 (by decide +kernel) (by decide +kernel))⟩
theorem cv_X1_157 : Cv RX1 157 yX1_yearsOf cX1_yearsOf 2 (Option.some FieldType.int) 1 := ⟨cb_X1_yearsOf, (tb_in 712 (by decide +kernel) (by decide +kernel)), (tb_in 714 (by decide +kernel) (by decide +kernel)), (tb_in 20 (by decide +kernel) (by decide +kernel))⟩
theorem cv_X1_160 : Cv RX1 160 yX1_beginning cX1_beginning 3 (Option.some FieldType.int) 2 := ⟨cb_X1_beginning, (tb_in 716 (by decide +kernel) (by decide +kernel)), (tb_in 718 (by decide +kernel) (by decide +kernel)), (tb_in 21 (by decide +kernel) (by decide +kernel))⟩
theorem cv_X1_161 : Cv RX1 161 yX1_pointOf cX1_pointOf 2 (Option.some FieldType.int) 1 := ⟨cb_X1_pointOf, (tb_in 720 (by decide +kernel) (by decide +kernel)), (tb_in 722 (by decide +kernel) (by decide +kernel)), (tb_in 22 (by decide +kernel) (by decide +kernel))⟩
theorem cv_X1_164 : Cv RX1 164 yX0_allows cX0_allows 5 (Option.some FieldType.boolean) 4 := ⟨cb_X0_allows, (tb_in 724 (by decide +kernel) (by decide +kernel)), (tb_in 725 (by decide +kernel) (by decide +kernel)), (tb_in 726 (by decide +kernel) (by decide +kernel))⟩
theorem cv_X1_167 : Cv RX1 167 yX1_widen cX1_widen 9 (Option.none : Option FieldType) 2 := ⟨cb_X1_widen, (tb_in 733 (by decide +kernel) (by decide +kernel)), (tb_in 735 (by decide +kernel) (by decide +kernel)), (tb_in 23 (by decide +kernel) (by decide +kernel))⟩
theorem cv_X1_171 : Cv RX1 171 yX0_most cX0_most 3 (Option.some FieldType.int) 2 := ⟨cb_X0_most, (tb_in 737 (by decide +kernel) (by decide +kernel)), (tb_in 729 (by decide +kernel) (by decide +kernel)), (tb_in 730 (by decide +kernel) (by decide +kernel))⟩
theorem cs_X1_174 : Cs RX1 174 yJ_min cJ_min 2 (Option.some FieldType.int) 2 := ⟨cb_J_min, (tb_in 738 (by decide +kernel) (by decide +kernel)), (tb_in 374 (by decide +kernel) (by decide +kernel))⟩
theorem cs_X1_179 : Cs RX1 179 yJ_max cJ_max 2 (Option.some FieldType.int) 2 := ⟨cb_J_max, (tb_in 739 (by decide +kernel) (by decide +kernel)), (tb_in 367 (by decide +kernel) (by decide +kernel))⟩
theorem cv_X1_182 : Cv RX1 182 yX1_end cX1_end 3 (Option.some FieldType.int) 2 := ⟨cb_X1_end, (tb_in 799 (by decide +kernel) (by decide +kernel)), (tb_in 745 (by decide +kernel) (by decide +kernel)), (tb_in 746 (by decide +kernel) (by decide +kernel))⟩
theorem cn_X2_25 : Cn RX2 25 yX7_at cX7_at 2 (Option.some FieldType.int) 2 := ⟨cb_X7_at, ⟨"ReignLadders", List.mem_of_getElem? (i := 7) (by decide +kernel)⟩, (tb_in 306 (by decide +kernel) (by decide +kernel))⟩
theorem cs_X2_31 : Cs RX2 31 yX2_byteOf cX2_byteOf 3 (Option.some FieldType.int) 2 := ⟨cb_X2_byteOf, (tb_in 475 (by decide +kernel) (by decide +kernel)), (tb_in 476 (by decide +kernel) (by decide +kernel))⟩
theorem cn_X2_35 : Cn RX2 35 yX7_put cX7_put 3 (Option.none : Option FieldType) 3 := ⟨cb_X7_put, ⟨"ReignLadders", List.mem_of_getElem? (i := 6) (by decide +kernel)⟩, (tb_in 332 (by decide +kernel) (by decide +kernel))⟩
theorem cv_X2_39 : Cv RX2 39 yX2_letterAt cX2_letterAt 2 (Option.some FieldType.int) 1 := ⟨cb_X2_letterAt, (tb_in 504 (by decide +kernel) (by decide +kernel)), (tb_in 505 (by decide +kernel) (by decide +kernel)), (tb_in 506 (by decide +kernel) (by decide +kernel))⟩
theorem cv_X2_43 : Cv RX2 43 yX2_after cX2_after 2 (Option.some FieldType.int) 1 := ⟨cb_X2_after, (tb_in 509 (by decide +kernel) (by decide +kernel)), (tb_in 511 (by decide +kernel) (by decide +kernel)), (tb_in 3 (by decide +kernel) (by decide +kernel))⟩
theorem cv_X2_46 : Cv RX2 46 yX2_firstFault cX2_firstFault 3 (Option.some FieldType.int) 0 := ⟨cb_X2_firstFault, (tb_in 534 (by decide +kernel) (by decide +kernel)), (tb_in 501 (by decide +kernel) (by decide +kernel)), (tb_in 502 (by decide +kernel) (by decide +kernel))⟩
theorem cs_X2_50 : Cs RX2 50 yX2_afterFactorBegins cX2_afterFactorBegins 1 (Option.some FieldType.int) 1 := ⟨cb_X2_afterFactorBegins, (tb_in 513 (by decide +kernel) (by decide +kernel)), (tb_in 514 (by decide +kernel) (by decide +kernel))⟩
theorem cs_X2_53 : Cs RX2 53 yX2_isDigit cX2_isDigit 1 (Option.some FieldType.boolean) 1 := ⟨cb_X2_isDigit, (tb_in 516 (by decide +kernel) (by decide +kernel)), (tb_in 517 (by decide +kernel) (by decide +kernel))⟩
theorem cv_X2_57 : Cv RX2 57 yX2_afterFactorEnds cX2_afterFactorEnds 2 (Option.some FieldType.int) 1 := ⟨cb_X2_afterFactorEnds, (tb_in 519 (by decide +kernel) (by decide +kernel)), (tb_in 521 (by decide +kernel) (by decide +kernel)), (tb_in 4 (by decide +kernel) (by decide +kernel))⟩
theorem cn_X3_28 : Cn RX3 28 yX7_at cX7_at 2 (Option.some FieldType.int) 2 := ⟨cb_X7_at, ⟨"ReignLadders", List.mem_of_getElem? (i := 2) (by decide +kernel)⟩, (tb_in 306 (by decide +kernel) (by decide +kernel))⟩
theorem cs_X3_32 : Cs RX3 32 yX3_isOf cX3_isOf 2 (Option.some FieldType.boolean) 2 := ⟨cb_X3_isOf, (tb_in 324 (by decide +kernel) (by decide +kernel)), (tb_in 325 (by decide +kernel) (by decide +kernel))⟩
theorem cn_X3_36 : Cn RX3 36 yX7_put cX7_put 3 (Option.none : Option FieldType) 3 := ⟨cb_X7_put, ⟨"ReignLadders", List.mem_of_getElem? (i := 3) (by decide +kernel)⟩, (tb_in 332 (by decide +kernel) (by decide +kernel))⟩
theorem cv_X3_40 : Cv RX3 40 yX3_lastOf cX3_lastOf 2 (Option.some FieldType.int) 1 := ⟨cb_X3_lastOf, (tb_in 334 (by decide +kernel) (by decide +kernel)), (tb_in 302 (by decide +kernel) (by decide +kernel)), (tb_in 303 (by decide +kernel) (by decide +kernel))⟩
theorem cv_X3_44 : Cv RX3 44 yX3_fact cX3_fact 3 (Option.some FieldType.int) 2 := ⟨cb_X3_fact, (tb_in 316 (by decide +kernel) (by decide +kernel)), (tb_in 317 (by decide +kernel) (by decide +kernel)), (tb_in 318 (by decide +kernel) (by decide +kernel))⟩
theorem cv_X3_48 : Cv RX3 48 yX3_toldYear cX3_toldYear 2 (Option.some FieldType.int) 1 := ⟨cb_X3_toldYear, (tb_in 836 (by decide +kernel) (by decide +kernel)), (tb_in 837 (by decide +kernel) (by decide +kernel)), (tb_in 838 (by decide +kernel) (by decide +kernel))⟩
theorem cv_X3_51 : Cv RX3 51 yX3_has cX3_has 2 (Option.some FieldType.boolean) 1 := ⟨cb_X3_has, (tb_in 312 (by decide +kernel) (by decide +kernel)), (tb_in 313 (by decide +kernel) (by decide +kernel)), (tb_in 314 (by decide +kernel) (by decide +kernel))⟩
theorem cv_X3_55 : Cv RX3 55 yX3_isKnown cX3_isKnown 3 (Option.some FieldType.boolean) 2 := ⟨cb_X3_isKnown, (tb_in 786 (by decide +kernel) (by decide +kernel)), (tb_in 309 (by decide +kernel) (by decide +kernel)), (tb_in 310 (by decide +kernel) (by decide +kernel))⟩
theorem cs_X3_58 : Cs RX3 58 yJ_max cJ_max 2 (Option.some FieldType.int) 2 := ⟨cb_J_max, (tb_in 366 (by decide +kernel) (by decide +kernel)), (tb_in 367 (by decide +kernel) (by decide +kernel))⟩
theorem cv_X3_63 : Cv RX3 63 yX3_counted cX3_counted 3 (Option.some FieldType.int) 2 := ⟨cb_X3_counted, (tb_in 358 (by decide +kernel) (by decide +kernel)), (tb_in 360 (by decide +kernel) (by decide +kernel)), (tb_in 0 (by decide +kernel) (by decide +kernel))⟩
theorem cv_X3_66 : Cv RX3 66 yX3_otherReading cX3_otherReading 4 (Option.some FieldType.int) 2 := ⟨cb_X3_otherReading, (tb_in 362 (by decide +kernel) (by decide +kernel)), (tb_in 364 (by decide +kernel) (by decide +kernel)), (tb_in 1 (by decide +kernel) (by decide +kernel))⟩
theorem cs_X3_69 : Cs RX3 69 yJ_min cJ_min 2 (Option.some FieldType.int) 2 := ⟨cb_J_min, (tb_in 373 (by decide +kernel) (by decide +kernel)), (tb_in 374 (by decide +kernel) (by decide +kernel))⟩
theorem cv_X3_72 : Cv RX3 72 yX3_longest cX3_longest 3 (Option.some FieldType.int) 2 := ⟨cb_X3_longest, (tb_in 354 (by decide +kernel) (by decide +kernel)), (tb_in 355 (by decide +kernel) (by decide +kernel)), (tb_in 356 (by decide +kernel) (by decide +kernel))⟩
theorem cv_X3_75 : Cv RX3 75 yX3_shortest cX3_shortest 3 (Option.some FieldType.int) 2 := ⟨cb_X3_shortest, (tb_in 369 (by decide +kernel) (by decide +kernel)), (tb_in 370 (by decide +kernel) (by decide +kernel)), (tb_in 371 (by decide +kernel) (by decide +kernel))⟩
theorem cv_X3_78 : Cv RX3 78 yX3_isMisread cX3_isMisread 2 (Option.some FieldType.boolean) 1 := ⟨cb_X3_isMisread, (tb_in 376 (by decide +kernel) (by decide +kernel)), (tb_in 377 (by decide +kernel) (by decide +kernel)), (tb_in 378 (by decide +kernel) (by decide +kernel))⟩
theorem cv_X3_81 : Cv RX3 81 yX3_overlap cX3_overlap 2 (Option.some FieldType.int) 1 := ⟨cb_X3_overlap, (tb_in 848 (by decide +kernel) (by decide +kernel)), (tb_in 387 (by decide +kernel) (by decide +kernel)), (tb_in 388 (by decide +kernel) (by decide +kernel))⟩
theorem cn_X3_84 : Cn RX3 84 yX7_within cX7_within 3 (Option.some FieldType.boolean) 3 := ⟨cb_X7_within, ⟨"ReignLadders", List.mem_of_getElem? (i := 16) (by decide +kernel)⟩, (tb_in 113 (by decide +kernel) (by decide +kernel))⟩
theorem cv_X4_22 : Cv RX4 22 yX2_size cX2_size 1 (Option.some FieldType.int) 0 := ⟨cb_X2_size, (tb_in 547 (by decide +kernel) (by decide +kernel)), (tb_in 480 (by decide +kernel) (by decide +kernel)), (tb_in 481 (by decide +kernel) (by decide +kernel))⟩
theorem cv_X4_27 : Cv RX4 27 yX2_letterAt cX2_letterAt 2 (Option.some FieldType.int) 1 := ⟨cb_X2_letterAt, (tb_in 548 (by decide +kernel) (by decide +kernel)), (tb_in 505 (by decide +kernel) (by decide +kernel)), (tb_in 506 (by decide +kernel) (by decide +kernel))⟩
theorem cn_X4_31 : Cn RX4 31 yX7_put cX7_put 3 (Option.none : Option FieldType) 3 := ⟨cb_X7_put, ⟨"ReignLadders", List.mem_of_getElem? (i := 8) (by decide +kernel)⟩, (tb_in 332 (by decide +kernel) (by decide +kernel))⟩
theorem cn_X4_35 : Cn RX4 35 yX7_at cX7_at 2 (Option.some FieldType.int) 2 := ⟨cb_X7_at, ⟨"ReignLadders", List.mem_of_getElem? (i := 9) (by decide +kernel)⟩, (tb_in 306 (by decide +kernel) (by decide +kernel))⟩
theorem cv_X4_39 : Cv RX4 39 yX5_meets cX5_meets 8 (Option.some FieldType.boolean) 3 := ⟨cb_X5_meets, (tb_in 579 (by decide +kernel) (by decide +kernel)), (tb_in 580 (by decide +kernel) (by decide +kernel)), (tb_in 581 (by decide +kernel) (by decide +kernel))⟩
theorem cn_X5_34 : Cn RX5 34 yX7_at cX7_at 2 (Option.some FieldType.int) 2 := ⟨cb_X7_at, ⟨"ReignLadders", List.mem_of_getElem? (i := 10) (by decide +kernel)⟩, (tb_in 306 (by decide +kernel) (by decide +kernel))⟩
theorem cv_X5_38 : Cv RX5 38 yX5_begin cX5_begin 1 (Option.none : Option FieldType) 0 := ⟨cb_X5_begin, (tb_in 584 (by decide +kernel) (by decide +kernel)), (tb_in 586 (by decide +kernel) (by decide +kernel)), (tb_in 7 (by decide +kernel) (by decide +kernel))⟩
theorem cv_X5_41 : Cv RX5 41 yX5_end cX5_end 3 (Option.some FieldType.long) 0 := ⟨cb_X5_end, (tb_in 588 (by decide +kernel) (by decide +kernel)), (tb_in 590 (by decide +kernel) (by decide +kernel)), (tb_in 8 (by decide +kernel) (by decide +kernel))⟩
theorem cv_X5_45 : Cv RX5 45 yX5_take cX5_take 3 (Option.none : Option FieldType) 1 := ⟨cb_X5_take, (tb_in 592 (by decide +kernel) (by decide +kernel)), (tb_in 594 (by decide +kernel) (by decide +kernel)), (tb_in 9 (by decide +kernel) (by decide +kernel))⟩
theorem cs_X5_49 : Cs RX5 49 yX5_numberOf cX5_numberOf 3 (Option.some FieldType.int) 2 := ⟨cb_X5_numberOf, (tb_in 597 (by decide +kernel) (by decide +kernel)), (tb_in 598 (by decide +kernel) (by decide +kernel))⟩
theorem cv_X5_53 : Cv RX5 53 yX5_valueOf cX5_valueOf 2 (Option.some FieldType.int) 1 := ⟨cb_X5_valueOf, (tb_in 600 (by decide +kernel) (by decide +kernel)), (tb_in 602 (by decide +kernel) (by decide +kernel)), (tb_in 10 (by decide +kernel) (by decide +kernel))⟩
theorem cs_X5_57 : Cs RX5 57 yX5_compared cX5_compared 3 (Option.some FieldType.long) 3 := ⟨cb_X5_compared, (tb_in 604 (by decide +kernel) (by decide +kernel)), (tb_in 605 (by decide +kernel) (by decide +kernel))⟩
theorem cn_X6_9 : Cn RX6 9 yX7_within cX7_within 3 (Option.some FieldType.boolean) 3 := ⟨cb_X7_within, ⟨"ReignLadders", List.mem_of_getElem? (i := 0) (by decide +kernel)⟩, (tb_in 113 (by decide +kernel) (by decide +kernel))⟩
theorem cn_X6_32 : Cn RX6 32 yX7_at cX7_at 2 (Option.some FieldType.int) 2 := ⟨cb_X7_at, ⟨"ReignLadders", List.mem_of_getElem? (i := 5) (by decide +kernel)⟩, (tb_in 306 (by decide +kernel) (by decide +kernel))⟩
theorem cn_X6_36 : Cn RX6 36 yX7_put cX7_put 3 (Option.none : Option FieldType) 3 := ⟨cb_X7_put, ⟨"ReignLadders", List.mem_of_getElem? (i := 4) (by decide +kernel)⟩, (tb_in 332 (by decide +kernel) (by decide +kernel))⟩
theorem cv_X6_40 : Cv RX6 40 yX6_add cX6_add 9 (Option.some FieldType.int) 7 := ⟨cb_X6_add, (tb_in 429 (by decide +kernel) (by decide +kernel)), (tb_in 410 (by decide +kernel) (by decide +kernel)), (tb_in 411 (by decide +kernel) (by decide +kernel))⟩
theorem cv_X6_44 : Cv RX6 44 yX6_fact cX6_fact 3 (Option.some FieldType.int) 2 := ⟨cb_X6_fact, (tb_in 467 (by decide +kernel) (by decide +kernel)), (tb_in 451 (by decide +kernel) (by decide +kernel)), (tb_in 452 (by decide +kernel) (by decide +kernel))⟩
theorem cv_X6_48 : Cv RX6 48 yX3_isKnown cX3_isKnown 3 (Option.some FieldType.boolean) 2 := ⟨cb_X3_isKnown, (tb_in 668 (by decide +kernel) (by decide +kernel)), (tb_in 309 (by decide +kernel) (by decide +kernel)), (tb_in 310 (by decide +kernel) (by decide +kernel))⟩
theorem cv_X6_54 : Cv RX6 54 yX3_toldYear cX3_toldYear 2 (Option.some FieldType.int) 1 := ⟨cb_X3_toldYear, (tb_in 854 (by decide +kernel) (by decide +kernel)), (tb_in 837 (by decide +kernel) (by decide +kernel)), (tb_in 838 (by decide +kernel) (by decide +kernel))⟩
theorem cv_X6_58 : Cv RX6 58 yX6_shift cX6_shift 2 (Option.some FieldType.int) 1 := ⟨cb_X6_shift, (tb_in 855 (by decide +kernel) (by decide +kernel)), (tb_in 695 (by decide +kernel) (by decide +kernel)), (tb_in 696 (by decide +kernel) (by decide +kernel))⟩
theorem cs_X6_61 : Cs RX6 61 yJ_abs cJ_abs 1 (Option.some FieldType.int) 1 := ⟨cb_J_abs, (tb_in 856 (by decide +kernel) (by decide +kernel)), (tb_in 857 (by decide +kernel) (by decide +kernel))⟩
theorem cv_X6_66 : Cv RX6 66 yX6_beginning cX6_beginning 3 (Option.some FieldType.int) 2 := ⟨cb_X6_beginning, (tb_in 859 (by decide +kernel) (by decide +kernel)), (tb_in 699 (by decide +kernel) (by decide +kernel)), (tb_in 700 (by decide +kernel) (by decide +kernel))⟩
theorem cv_X6_71 : Cv RX6 71 yX6_year cX6_year 3 (Option.some FieldType.int) 2 := ⟨cb_X6_year, (tb_in 879 (by decide +kernel) (by decide +kernel)), (tb_in 880 (by decide +kernel) (by decide +kernel)), (tb_in 881 (by decide +kernel) (by decide +kernel))⟩
theorem cv_L_13 : Cv RL 13 yX7_reign cX7_reign 7 (Option.some FieldType.int) 5 := ⟨cb_X7_reign, (tb_in 296 (by decide +kernel) (by decide +kernel)), (tb_in 297 (by decide +kernel) (by decide +kernel)), (tb_in 298 (by decide +kernel) (by decide +kernel))⟩
theorem cv_L_17 : Cv RL 17 yX8_reign cX8_reign 9 (Option.some FieldType.int) 5 := ⟨cb_X8_reign, (tb_in 1011 (by decide +kernel) (by decide +kernel)), (tb_in 1012 (by decide +kernel) (by decide +kernel)), (tb_in 1013 (by decide +kernel) (by decide +kernel))⟩
theorem cv_L_18 : Cv RL 18 yX7_about cX7_about 3 (Option.some FieldType.int) 2 := ⟨cb_X7_about, (tb_in 335 (by decide +kernel) (by decide +kernel)), (tb_in 336 (by decide +kernel) (by decide +kernel)), (tb_in 337 (by decide +kernel) (by decide +kernel))⟩
theorem cv_L_22 : Cv RL 22 yX8_about cX8_about 3 (Option.some FieldType.int) 2 := ⟨cb_X8_about, (tb_in 1028 (by decide +kernel) (by decide +kernel)), (tb_in 1029 (by decide +kernel) (by decide +kernel)), (tb_in 1030 (by decide +kernel) (by decide +kernel))⟩
theorem cv_L_23 : Cv RL 23 yX7_as cX7_as 3 (Option.some FieldType.int) 2 := ⟨cb_X7_as, (tb_in 341 (by decide +kernel) (by decide +kernel)), (tb_in 342 (by decide +kernel) (by decide +kernel)), (tb_in 343 (by decide +kernel) (by decide +kernel))⟩
theorem cv_L_26 : Cv RL 26 yX8_as cX8_as 3 (Option.some FieldType.int) 2 := ⟨cb_X8_as, (tb_in 1040 (by decide +kernel) (by decide +kernel)), (tb_in 1041 (by decide +kernel) (by decide +kernel)), (tb_in 1042 (by decide +kernel) (by decide +kernel))⟩
theorem cv_L_27 : Cv RL 27 yX7_lasts cX7_lasts 4 (Option.some FieldType.int) 3 := ⟨cb_X7_lasts, (tb_in 346 (by decide +kernel) (by decide +kernel)), (tb_in 347 (by decide +kernel) (by decide +kernel)), (tb_in 348 (by decide +kernel) (by decide +kernel))⟩
theorem cv_L_31 : Cv RL 31 yX8_lasts cX8_lasts 4 (Option.some FieldType.int) 3 := ⟨cb_X8_lasts, (tb_in 1044 (by decide +kernel) (by decide +kernel)), (tb_in 1045 (by decide +kernel) (by decide +kernel)), (tb_in 1046 (by decide +kernel) (by decide +kernel))⟩
theorem cv_L_32 : Cv RL 32 yX7_number cX7_number 3 (Option.some FieldType.int) 2 := ⟨cb_X7_number, (tb_in 382 (by decide +kernel) (by decide +kernel)), (tb_in 383 (by decide +kernel) (by decide +kernel)), (tb_in 384 (by decide +kernel) (by decide +kernel))⟩
theorem cv_L_35 : Cv RL 35 yX8_number cX8_number 4 (Option.some FieldType.int) 2 := ⟨cb_X8_number, (tb_in 1064 (by decide +kernel) (by decide +kernel)), (tb_in 1065 (by decide +kernel) (by decide +kernel)), (tb_in 1066 (by decide +kernel) (by decide +kernel))⟩
theorem cv_L_36 : Cv RL 36 yX7_tie cX7_tie 7 (Option.some FieldType.int) 6 := ⟨cb_X7_tie, (tb_in 394 (by decide +kernel) (by decide +kernel)), (tb_in 395 (by decide +kernel) (by decide +kernel)), (tb_in 396 (by decide +kernel) (by decide +kernel))⟩
theorem cv_L_40 : Cv RL 40 yX8_tie cX8_tie 7 (Option.some FieldType.int) 6 := ⟨cb_X8_tie, (tb_in 1068 (by decide +kernel) (by decide +kernel)), (tb_in 1069 (by decide +kernel) (by decide +kernel)), (tb_in 1070 (by decide +kernel) (by decide +kernel))⟩
theorem cv_L_41 : Cv RL 41 yX7_sky cX7_sky 7 (Option.some FieldType.int) 6 := ⟨cb_X7_sky, (tb_in 414 (by decide +kernel) (by decide +kernel)), (tb_in 415 (by decide +kernel) (by decide +kernel)), (tb_in 416 (by decide +kernel) (by decide +kernel))⟩
theorem cv_L_44 : Cv RL 44 yX8_sky cX8_sky 9 (Option.some FieldType.int) 6 := ⟨cb_X8_sky, (tb_in 1079 (by decide +kernel) (by decide +kernel)), (tb_in 1080 (by decide +kernel) (by decide +kernel)), (tb_in 1081 (by decide +kernel) (by decide +kernel))⟩
theorem cv_L_45 : Cv RL 45 yX7_ring cX7_ring 5 (Option.some FieldType.int) 4 := ⟨cb_X7_ring, (tb_in 430 (by decide +kernel) (by decide +kernel)), (tb_in 431 (by decide +kernel) (by decide +kernel)), (tb_in 432 (by decide +kernel) (by decide +kernel))⟩
theorem cv_L_49 : Cv RL 49 yX8_ring cX8_ring 6 (Option.some FieldType.int) 4 := ⟨cb_X8_ring, (tb_in 1086 (by decide +kernel) (by decide +kernel)), (tb_in 1087 (by decide +kernel) (by decide +kernel)), (tb_in 1088 (by decide +kernel) (by decide +kernel))⟩
theorem cv_L_50 : Cv RL 50 yX7_letter cX7_letter 6 (Option.some FieldType.int) 5 := ⟨cb_X7_letter, (tb_in 438 (by decide +kernel) (by decide +kernel)), (tb_in 439 (by decide +kernel) (by decide +kernel)), (tb_in 440 (by decide +kernel) (by decide +kernel))⟩
theorem cv_L_53 : Cv RL 53 yX8_letter cX8_letter 6 (Option.some FieldType.int) 5 := ⟨cb_X8_letter, (tb_in 1090 (by decide +kernel) (by decide +kernel)), (tb_in 1091 (by decide +kernel) (by decide +kernel)), (tb_in 1092 (by decide +kernel) (by decide +kernel))⟩
theorem cv_L_54 : Cv RL 54 yX7_tied cX7_tied 3 (Option.some FieldType.int) 2 := ⟨cb_X7_tied, (tb_in 442 (by decide +kernel) (by decide +kernel)), (tb_in 443 (by decide +kernel) (by decide +kernel)), (tb_in 444 (by decide +kernel) (by decide +kernel))⟩
theorem cv_L_57 : Cv RL 57 yX8_tied cX8_tied 3 (Option.some FieldType.int) 2 := ⟨cb_X8_tied, (tb_in 1094 (by decide +kernel) (by decide +kernel)), (tb_in 1095 (by decide +kernel) (by decide +kernel)), (tb_in 1096 (by decide +kernel) (by decide +kernel))⟩
theorem cv_L_58 : Cv RL 58 yX7_undo cX7_undo 1 (Option.some FieldType.int) 0 := ⟨cb_X7_undo, (tb_in 455 (by decide +kernel) (by decide +kernel)), (tb_in 456 (by decide +kernel) (by decide +kernel)), (tb_in 457 (by decide +kernel) (by decide +kernel))⟩
theorem cv_L_62 : Cv RL 62 yX8_undo cX8_undo 1 (Option.some FieldType.int) 0 := ⟨cb_X8_undo, (tb_in 1102 (by decide +kernel) (by decide +kernel)), (tb_in 1103 (by decide +kernel) (by decide +kernel)), (tb_in 1104 (by decide +kernel) (by decide +kernel))⟩
theorem cv_L_65 : Cv RL 65 yX7_letters cX7_letters 4 (Option.some FieldType.int) 1 := ⟨cb_X7_letters, (tb_in 468 (by decide +kernel) (by decide +kernel)), (tb_in 469 (by decide +kernel) (by decide +kernel)), (tb_in 470 (by decide +kernel) (by decide +kernel))⟩
theorem cv_L_69 : Cv RL 69 yX8_letters cX8_letters 7 (Option.some FieldType.int) 1 := ⟨cb_X8_letters, (tb_in 1106 (by decide +kernel) (by decide +kernel)), (tb_in 1107 (by decide +kernel) (by decide +kernel)), (tb_in 1108 (by decide +kernel) (by decide +kernel))⟩
theorem cv_L_70 : Cv RL 70 yX7_blank cX7_blank 1 (Option.some FieldType.int) 0 := ⟨cb_X7_blank, (tb_in 488 (by decide +kernel) (by decide +kernel)), (tb_in 489 (by decide +kernel) (by decide +kernel)), (tb_in 490 (by decide +kernel) (by decide +kernel))⟩
theorem cv_L_73 : Cv RL 73 yX8_blank cX8_blank 2 (Option.some FieldType.int) 0 := ⟨cb_X8_blank, (tb_in 1111 (by decide +kernel) (by decide +kernel)), (tb_in 1112 (by decide +kernel) (by decide +kernel)), (tb_in 1113 (by decide +kernel) (by decide +kernel))⟩
theorem cv_L_74 : Cv RL 74 yX7_fault cX7_fault 1 (Option.some FieldType.int) 0 := ⟨cb_X7_fault, (tb_in 496 (by decide +kernel) (by decide +kernel)), (tb_in 497 (by decide +kernel) (by decide +kernel)), (tb_in 498 (by decide +kernel) (by decide +kernel))⟩
theorem cv_L_77 : Cv RL 77 yX8_fault cX8_fault 1 (Option.some FieldType.int) 0 := ⟨cb_X8_fault, (tb_in 1115 (by decide +kernel) (by decide +kernel)), (tb_in 1116 (by decide +kernel) (by decide +kernel)), (tb_in 1117 (by decide +kernel) (by decide +kernel))⟩
theorem cv_L_78 : Cv RL 78 yX7_text cX7_text 3 (Option.some FieldType.int) 1 := ⟨cb_X7_text, (tb_in 523 (by decide +kernel) (by decide +kernel)), (tb_in 524 (by decide +kernel) (by decide +kernel)), (tb_in 525 (by decide +kernel) (by decide +kernel))⟩
theorem cv_L_82 : Cv RL 82 yX8_text cX8_text 4 (Option.some FieldType.int) 1 := ⟨cb_X8_text, (tb_in 1130 (by decide +kernel) (by decide +kernel)), (tb_in 1131 (by decide +kernel) (by decide +kernel)), (tb_in 1132 (by decide +kernel) (by decide +kernel))⟩
theorem cv_L_83 : Cv RL 83 yX7_strike cX7_strike 2 (Option.some FieldType.int) 1 := ⟨cb_X7_strike, (tb_in 550 (by decide +kernel) (by decide +kernel)), (tb_in 551 (by decide +kernel) (by decide +kernel)), (tb_in 552 (by decide +kernel) (by decide +kernel))⟩
theorem cv_L_86 : Cv RL 86 yX8_strike cX8_strike 2 (Option.some FieldType.int) 1 := ⟨cb_X8_strike, (tb_in 1137 (by decide +kernel) (by decide +kernel)), (tb_in 1138 (by decide +kernel) (by decide +kernel)), (tb_in 1139 (by decide +kernel) (by decide +kernel))⟩
theorem cv_L_87 : Cv RL 87 yX7_counts cX7_counts 3 (Option.some FieldType.int) 2 := ⟨cb_X7_counts, (tb_in 562 (by decide +kernel) (by decide +kernel)), (tb_in 563 (by decide +kernel) (by decide +kernel)), (tb_in 564 (by decide +kernel) (by decide +kernel))⟩
theorem cv_L_90 : Cv RL 90 yX8_counts cX8_counts 3 (Option.some FieldType.int) 2 := ⟨cb_X8_counts, (tb_in 1141 (by decide +kernel) (by decide +kernel)), (tb_in 1142 (by decide +kernel) (by decide +kernel)), (tb_in 1143 (by decide +kernel) (by decide +kernel))⟩
theorem cv_L_91 : Cv RL 91 yX7_believes cX7_believes 3 (Option.some FieldType.int) 2 := ⟨cb_X7_believes, (tb_in 607 (by decide +kernel) (by decide +kernel)), (tb_in 608 (by decide +kernel) (by decide +kernel)), (tb_in 609 (by decide +kernel) (by decide +kernel))⟩
theorem cv_L_94 : Cv RL 94 yX8_believes cX8_believes 3 (Option.some FieldType.int) 2 := ⟨cb_X8_believes, (tb_in 1168 (by decide +kernel) (by decide +kernel)), (tb_in 1169 (by decide +kernel) (by decide +kernel)), (tb_in 1170 (by decide +kernel) (by decide +kernel))⟩
theorem cv_L_95 : Cv RL 95 yX7_can cX7_can 4 (Option.some FieldType.int) 2 := ⟨cb_X7_can, (tb_in 615 (by decide +kernel) (by decide +kernel)), (tb_in 616 (by decide +kernel) (by decide +kernel)), (tb_in 617 (by decide +kernel) (by decide +kernel))⟩
theorem cv_L_98 : Cv RL 98 yX8_can cX8_can 3 (Option.some FieldType.int) 2 := ⟨cb_X8_can, (tb_in 1176 (by decide +kernel) (by decide +kernel)), (tb_in 1177 (by decide +kernel) (by decide +kernel)), (tb_in 1178 (by decide +kernel) (by decide +kernel))⟩
theorem cv_L_99 : Cv RL 99 yX7_span cX7_span 6 (Option.some FieldType.int) 4 := ⟨cb_X7_span, (tb_in 740 (by decide +kernel) (by decide +kernel)), (tb_in 741 (by decide +kernel) (by decide +kernel)), (tb_in 742 (by decide +kernel) (by decide +kernel))⟩
theorem cv_L_102 : Cv RL 102 yX8_span cX8_span 5 (Option.some FieldType.int) 4 := ⟨cb_X8_span, (tb_in 1218 (by decide +kernel) (by decide +kernel)), (tb_in 1219 (by decide +kernel) (by decide +kernel)), (tb_in 1220 (by decide +kernel) (by decide +kernel))⟩
theorem cv_L_103 : Cv RL 103 yX7_held cX7_held 6 (Option.some FieldType.int) 4 := ⟨cb_X7_held, (tb_in 748 (by decide +kernel) (by decide +kernel)), (tb_in 749 (by decide +kernel) (by decide +kernel)), (tb_in 750 (by decide +kernel) (by decide +kernel))⟩
theorem cv_L_106 : Cv RL 106 yX8_held cX8_held 9 (Option.some FieldType.int) 4 := ⟨cb_X8_held, (tb_in 1222 (by decide +kernel) (by decide +kernel)), (tb_in 1223 (by decide +kernel) (by decide +kernel)), (tb_in 1224 (by decide +kernel) (by decide +kernel))⟩
theorem cv_L_107 : Cv RL 107 yX7_doubt cX7_doubt 5 (Option.some FieldType.int) 3 := ⟨cb_X7_doubt, (tb_in 756 (by decide +kernel) (by decide +kernel)), (tb_in 757 (by decide +kernel) (by decide +kernel)), (tb_in 758 (by decide +kernel) (by decide +kernel))⟩
theorem cv_L_110 : Cv RL 110 yX8_doubt cX8_doubt 10 (Option.some FieldType.int) 3 := ⟨cb_X8_doubt, (tb_in 1226 (by decide +kernel) (by decide +kernel)), (tb_in 1227 (by decide +kernel) (by decide +kernel)), (tb_in 1228 (by decide +kernel) (by decide +kernel))⟩
theorem cv_L_111 : Cv RL 111 yX7_floats cX7_floats 4 (Option.some FieldType.int) 2 := ⟨cb_X7_floats, (tb_in 770 (by decide +kernel) (by decide +kernel)), (tb_in 771 (by decide +kernel) (by decide +kernel)), (tb_in 772 (by decide +kernel) (by decide +kernel))⟩
theorem cv_L_114 : Cv RL 114 yX8_floats cX8_floats 3 (Option.some FieldType.int) 2 := ⟨cb_X8_floats, (tb_in 1233 (by decide +kernel) (by decide +kernel)), (tb_in 1234 (by decide +kernel) (by decide +kernel)), (tb_in 1235 (by decide +kernel) (by decide +kernel))⟩
theorem cv_L_115 : Cv RL 115 yX7_open cX7_open 4 (Option.some FieldType.int) 2 := ⟨cb_X7_open, (tb_in 791 (by decide +kernel) (by decide +kernel)), (tb_in 792 (by decide +kernel) (by decide +kernel)), (tb_in 793 (by decide +kernel) (by decide +kernel))⟩
theorem cv_L_118 : Cv RL 118 yX8_open cX8_open 3 (Option.some FieldType.int) 2 := ⟨cb_X8_open, (tb_in 1241 (by decide +kernel) (by decide +kernel)), (tb_in 1242 (by decide +kernel) (by decide +kernel)), (tb_in 1243 (by decide +kernel) (by decide +kernel))⟩
theorem cv_L_119 : Cv RL 119 yX7_part cX7_part 1 (Option.some FieldType.int) 0 := ⟨cb_X7_part, (tb_in 800 (by decide +kernel) (by decide +kernel)), (tb_in 801 (by decide +kernel) (by decide +kernel)), (tb_in 802 (by decide +kernel) (by decide +kernel))⟩
theorem cv_L_122 : Cv RL 122 yX8_part cX8_part 2 (Option.some FieldType.int) 0 := ⟨cb_X8_part, (tb_in 1249 (by decide +kernel) (by decide +kernel)), (tb_in 1250 (by decide +kernel) (by decide +kernel)), (tb_in 1251 (by decide +kernel) (by decide +kernel))⟩
theorem cv_L_123 : Cv RL 123 yX7_wish cX7_wish 6 (Option.some FieldType.int) 5 := ⟨cb_X7_wish, (tb_in 812 (by decide +kernel) (by decide +kernel)), (tb_in 813 (by decide +kernel) (by decide +kernel)), (tb_in 814 (by decide +kernel) (by decide +kernel))⟩
theorem cv_L_126 : Cv RL 126 yX8_wish cX8_wish 6 (Option.some FieldType.int) 5 := ⟨cb_X8_wish, (tb_in 1253 (by decide +kernel) (by decide +kernel)), (tb_in 1254 (by decide +kernel) (by decide +kernel)), (tb_in 1255 (by decide +kernel) (by decide +kernel))⟩
theorem cv_L_127 : Cv RL 127 yX7_closes cX7_closes 6 (Option.some FieldType.int) 3 := ⟨cb_X7_closes, (tb_in 816 (by decide +kernel) (by decide +kernel)), (tb_in 817 (by decide +kernel) (by decide +kernel)), (tb_in 818 (by decide +kernel) (by decide +kernel))⟩
theorem cv_L_130 : Cv RL 130 yX8_closes cX8_closes 4 (Option.some FieldType.int) 3 := ⟨cb_X8_closes, (tb_in 1257 (by decide +kernel) (by decide +kernel)), (tb_in 1258 (by decide +kernel) (by decide +kernel)), (tb_in 1259 (by decide +kernel) (by decide +kernel))⟩
theorem cv_L_131 : Cv RL 131 yX7_best cX7_best 10 (Option.some FieldType.int) 2 := ⟨cb_X7_best, (tb_in 824 (by decide +kernel) (by decide +kernel)), (tb_in 825 (by decide +kernel) (by decide +kernel)), (tb_in 826 (by decide +kernel) (by decide +kernel))⟩
theorem cv_L_134 : Cv RL 134 yX8_best cX8_best 7 (Option.some FieldType.int) 2 := ⟨cb_X8_best, (tb_in 1265 (by decide +kernel) (by decide +kernel)), (tb_in 1266 (by decide +kernel) (by decide +kernel)), (tb_in 1267 (by decide +kernel) (by decide +kernel))⟩
theorem cv_L_135 : Cv RL 135 yX7_tell cX7_tell 3 (Option.some FieldType.int) 2 := ⟨cb_X7_tell, (tb_in 828 (by decide +kernel) (by decide +kernel)), (tb_in 829 (by decide +kernel) (by decide +kernel)), (tb_in 830 (by decide +kernel) (by decide +kernel))⟩
theorem cv_L_138 : Cv RL 138 yX8_tell cX8_tell 4 (Option.some FieldType.int) 2 := ⟨cb_X8_tell, (tb_in 1269 (by decide +kernel) (by decide +kernel)), (tb_in 1270 (by decide +kernel) (by decide +kernel)), (tb_in 1271 (by decide +kernel) (by decide +kernel))⟩
theorem cv_L_139 : Cv RL 139 yX7_judge cX7_judge 4 (Option.some FieldType.int) 1 := ⟨cb_X7_judge, (tb_in 840 (by decide +kernel) (by decide +kernel)), (tb_in 841 (by decide +kernel) (by decide +kernel)), (tb_in 842 (by decide +kernel) (by decide +kernel))⟩
theorem cv_L_142 : Cv RL 142 yX8_judge cX8_judge 5 (Option.some FieldType.int) 1 := ⟨cb_X8_judge, (tb_in 1273 (by decide +kernel) (by decide +kernel)), (tb_in 1274 (by decide +kernel) (by decide +kernel)), (tb_in 1275 (by decide +kernel) (by decide +kernel))⟩
theorem cv_L_143 : Cv RL 143 yX7_count cX7_count 2 (Option.some FieldType.int) 1 := ⟨cb_X7_count, (tb_in 860 (by decide +kernel) (by decide +kernel)), (tb_in 861 (by decide +kernel) (by decide +kernel)), (tb_in 862 (by decide +kernel) (by decide +kernel))⟩
theorem cv_L_146 : Cv RL 146 yX8_count cX8_count 2 (Option.some FieldType.int) 1 := ⟨cb_X8_count, (tb_in 1285 (by decide +kernel) (by decide +kernel)), (tb_in 1286 (by decide +kernel) (by decide +kernel)), (tb_in 1287 (by decide +kernel) (by decide +kernel))⟩
theorem cv_L_147 : Cv RL 147 yX7_digest cX7_digest 4 (Option.some FieldType.long) 0 := ⟨cb_X7_digest, (tb_in 864 (by decide +kernel) (by decide +kernel)), (tb_in 865 (by decide +kernel) (by decide +kernel)), (tb_in 866 (by decide +kernel) (by decide +kernel))⟩
theorem cv_L_151 : Cv RL 151 yX8_digest cX8_digest 3 (Option.some FieldType.long) 0 := ⟨cb_X8_digest, (tb_in 1293 (by decide +kernel) (by decide +kernel)), (tb_in 1294 (by decide +kernel) (by decide +kernel)), (tb_in 1295 (by decide +kernel) (by decide +kernel))⟩
theorem cs_X8_88 : Cs RX8 88 yX8_lies cX8_lies 3 (Option.some FieldType.boolean) 3 := ⟨cb_X8_lies, (tb_in 1015 (by decide +kernel) (by decide +kernel)), (tb_in 1016 (by decide +kernel) (by decide +kernel))⟩
theorem cs_X8_92 : Cs RX8 92 yX8_isEdition cX8_isEdition 1 (Option.some FieldType.boolean) 1 := ⟨cb_X8_isEdition, (tb_in 1018 (by decide +kernel) (by decide +kernel)), (tb_in 1019 (by decide +kernel) (by decide +kernel))⟩
theorem cv_X8_96 : Cv RX8 96 yX8_lastOf cX8_lastOf 4 (Option.some FieldType.int) 1 := ⟨cb_X8_lastOf, (tb_in 1021 (by decide +kernel) (by decide +kernel)), (tb_in 1023 (by decide +kernel) (by decide +kernel)), (tb_in 29 (by decide +kernel) (by decide +kernel))⟩
theorem cs_X8_100 : Cs RX8 100 yX8_isMisread cX8_isMisread 1 (Option.some FieldType.boolean) 1 := ⟨cb_X8_isMisread, (tb_in 1025 (by decide +kernel) (by decide +kernel)), (tb_in 1026 (by decide +kernel) (by decide +kernel))⟩
theorem cv_X8_103 : Cv RX8 103 yX8_isReign cX8_isReign 2 (Option.some FieldType.boolean) 1 := ⟨cb_X8_isReign, (tb_in 1032 (by decide +kernel) (by decide +kernel)), (tb_in 1034 (by decide +kernel) (by decide +kernel)), (tb_in 30 (by decide +kernel) (by decide +kernel))⟩
theorem cv_X8_106 : Cv RX8 106 yX8_aboutOf cX8_aboutOf 3 (Option.some FieldType.int) 2 := ⟨cb_X8_aboutOf, (tb_in 1036 (by decide +kernel) (by decide +kernel)), (tb_in 1038 (by decide +kernel) (by decide +kernel)), (tb_in 31 (by decide +kernel) (by decide +kernel))⟩
theorem cv_X8_110 : Cv RX8 110 yX8_otherLength cX8_otherLength 4 (Option.some FieldType.int) 2 := ⟨cb_X8_otherLength, (tb_in 1052 (by decide +kernel) (by decide +kernel)), (tb_in 1054 (by decide +kernel) (by decide +kernel)), (tb_in 33 (by decide +kernel) (by decide +kernel))⟩
theorem cv_X8_113 : Cv RX8 113 yX8_mostOf cX8_mostOf 5 (Option.some FieldType.int) 2 := ⟨cb_X8_mostOf, (tb_in 1056 (by decide +kernel) (by decide +kernel)), (tb_in 1058 (by decide +kernel) (by decide +kernel)), (tb_in 34 (by decide +kernel) (by decide +kernel))⟩
theorem cv_X8_116 : Cv RX8 116 yX8_leastOf cX8_leastOf 5 (Option.some FieldType.int) 2 := ⟨cb_X8_leastOf, (tb_in 1048 (by decide +kernel) (by decide +kernel)), (tb_in 1050 (by decide +kernel) (by decide +kernel)), (tb_in 32 (by decide +kernel) (by decide +kernel))⟩
theorem cv_X8_119 : Cv RX8 119 yX8_lengthsOf cX8_lengthsOf 4 (Option.some FieldType.int) 2 := ⟨cb_X8_lengthsOf, (tb_in 1060 (by decide +kernel) (by decide +kernel)), (tb_in 1062 (by decide +kernel) (by decide +kernel)), (tb_in 35 (by decide +kernel) (by decide +kernel))⟩
theorem cs_X8_125 : Cs RX8 125 yX8_isXth cX8_isXth 1 (Option.some FieldType.boolean) 1 := ⟨cb_X8_isXth, (tb_in 1072 (by decide +kernel) (by decide +kernel)), (tb_in 1073 (by decide +kernel) (by decide +kernel))⟩
theorem cv_X8_128 : Cv RX8 128 yX8_come cX8_come 8 (Option.some FieldType.int) 7 := ⟨cb_X8_come, (tb_in 1075 (by decide +kernel) (by decide +kernel)), (tb_in 1077 (by decide +kernel) (by decide +kernel)), (tb_in 36 (by decide +kernel) (by decide +kernel))⟩
theorem cs_X8_132 : Cs RX8 132 yX8_isYear cX8_isYear 1 (Option.some FieldType.boolean) 1 := ⟨cb_X8_isYear, (tb_in 1083 (by decide +kernel) (by decide +kernel)), (tb_in 1084 (by decide +kernel) (by decide +kernel))⟩
theorem cv_X8_135 : Cv RX8 135 yX8_isTie cX8_isTie 2 (Option.some FieldType.boolean) 1 := ⟨cb_X8_isTie, (tb_in 1098 (by decide +kernel) (by decide +kernel)), (tb_in 1100 (by decide +kernel) (by decide +kernel)), (tb_in 37 (by decide +kernel) (by decide +kernel))⟩
theorem cs_X8_143 : Cs RX8 143 yX8_isName cX8_isName 1 (Option.some FieldType.boolean) 1 := ⟨cb_X8_isName, (tb_in 1127 (by decide +kernel) (by decide +kernel)), (tb_in 1128 (by decide +kernel) (by decide +kernel))⟩
theorem cv_X8_146 : Cv RX8 146 yX8_next cX8_next 5 (Option.some FieldType.int) 3 := ⟨cb_X8_next, (tb_in 1123 (by decide +kernel) (by decide +kernel)), (tb_in 1125 (by decide +kernel) (by decide +kernel)), (tb_in 39 (by decide +kernel) (by decide +kernel))⟩
theorem cv_X8_157 : Cv RX8 157 yX8_readText cX8_readText 6 (Option.none : Option FieldType) 0 := ⟨cb_X8_readText, (tb_in 1119 (by decide +kernel) (by decide +kernel)), (tb_in 1121 (by decide +kernel) (by decide +kernel)), (tb_in 38 (by decide +kernel) (by decide +kernel))⟩
theorem cs_X8_160 : Cs RX8 160 yX8_isSchool cX8_isSchool 1 (Option.some FieldType.boolean) 1 := ⟨cb_X8_isSchool, (tb_in 1134 (by decide +kernel) (by decide +kernel)), (tb_in 1135 (by decide +kernel) (by decide +kernel))⟩
theorem cv_X8_166 : Cv RX8 166 yX8_openGroup cX8_openGroup 1 (Option.none : Option FieldType) 0 := ⟨cb_X8_openGroup, (tb_in 1157 (by decide +kernel) (by decide +kernel)), (tb_in 1159 (by decide +kernel) (by decide +kernel)), (tb_in 43 (by decide +kernel) (by decide +kernel))⟩
theorem cv_X8_169 : Cv RX8 169 yX8_factor cX8_factor 2 (Option.none : Option FieldType) 1 := ⟨cb_X8_factor, (tb_in 1161 (by decide +kernel) (by decide +kernel)), (tb_in 1163 (by decide +kernel) (by decide +kernel)), (tb_in 44 (by decide +kernel) (by decide +kernel))⟩
theorem cs_X8_173 : Cs RX8 173 yX8_placeOf cX8_placeOf 1 (Option.some FieldType.int) 1 := ⟨cb_X8_placeOf, (tb_in 1165 (by decide +kernel) (by decide +kernel)), (tb_in 1166 (by decide +kernel) (by decide +kernel))⟩
theorem cv_X8_176 : Cv RX8 176 yX8_holds cX8_holds 7 (Option.some FieldType.boolean) 1 := ⟨cb_X8_holds, (tb_in 1153 (by decide +kernel) (by decide +kernel)), (tb_in 1155 (by decide +kernel) (by decide +kernel)), (tb_in 42 (by decide +kernel) (by decide +kernel))⟩
theorem cv_X8_179 : Cv RX8 179 yX8_saysOf cX8_saysOf 6 (Option.some FieldType.int) 3 := ⟨cb_X8_saysOf, (tb_in 1149 (by decide +kernel) (by decide +kernel)), (tb_in 1151 (by decide +kernel) (by decide +kernel)), (tb_in 41 (by decide +kernel) (by decide +kernel))⟩
theorem cv_X8_182 : Cv RX8 182 yX8_countsOf cX8_countsOf 3 (Option.some FieldType.int) 2 := ⟨cb_X8_countsOf, (tb_in 1145 (by decide +kernel) (by decide +kernel)), (tb_in 1147 (by decide +kernel) (by decide +kernel)), (tb_in 40 (by decide +kernel) (by decide +kernel))⟩
theorem cv_X8_185 : Cv RX8 185 yX8_believesOf cX8_believesOf 3 (Option.some FieldType.int) 2 := ⟨cb_X8_believesOf, (tb_in 1172 (by decide +kernel) (by decide +kernel)), (tb_in 1174 (by decide +kernel) (by decide +kernel)), (tb_in 45 (by decide +kernel) (by decide +kernel))⟩
theorem cv_X8_188 : Cv RX8 188 yX8_isKnown cX8_isKnown 3 (Option.some FieldType.boolean) 2 := ⟨cb_X8_isKnown, (tb_in 1184 (by decide +kernel) (by decide +kernel)), (tb_in 1186 (by decide +kernel) (by decide +kernel)), (tb_in 47 (by decide +kernel) (by decide +kernel))⟩
theorem cv_X8_193 : Cv RX8 193 yX8_bind cX8_bind 5 (Option.none : Option FieldType) 4 := ⟨cb_X8_bind, (tb_in 1197 (by decide +kernel) (by decide +kernel)), (tb_in 1199 (by decide +kernel) (by decide +kernel)), (tb_in 50 (by decide +kernel) (by decide +kernel))⟩
theorem cv_X8_197 : Cv RX8 197 yX8_misreadAhead cX8_misreadAhead 4 (Option.some FieldType.int) 1 := ⟨cb_X8_misreadAhead, (tb_in 1201 (by decide +kernel) (by decide +kernel)), (tb_in 1203 (by decide +kernel) (by decide +kernel)), (tb_in 51 (by decide +kernel) (by decide +kernel))⟩
theorem cv_X8_204 : Cv RX8 204 yX8_layChoice cX8_layChoice 10 (Option.some FieldType.boolean) 2 := ⟨cb_X8_layChoice, (tb_in 1192 (by decide +kernel) (by decide +kernel)), (tb_in 1194 (by decide +kernel) (by decide +kernel)), (tb_in 49 (by decide +kernel) (by decide +kernel))⟩
theorem cv_X8_207 : Cv RX8 207 yX8_layTie cX8_layTie 11 (Option.none : Option FieldType) 2 := ⟨cb_X8_layTie, (tb_in 1205 (by decide +kernel) (by decide +kernel)), (tb_in 1207 (by decide +kernel) (by decide +kernel)), (tb_in 52 (by decide +kernel) (by decide +kernel))⟩
theorem cv_X8_211 : Cv RX8 211 yX8_closeWays cX8_closeWays 5 (Option.some FieldType.boolean) 0 := ⟨cb_X8_closeWays, (tb_in 1210 (by decide +kernel) (by decide +kernel)), (tb_in 1212 (by decide +kernel) (by decide +kernel)), (tb_in 53 (by decide +kernel) (by decide +kernel))⟩
theorem cv_X8_215 : Cv RX8 215 yX8_take cX8_take 5 (Option.none : Option FieldType) 1 := ⟨cb_X8_take, (tb_in 1214 (by decide +kernel) (by decide +kernel)), (tb_in 1216 (by decide +kernel) (by decide +kernel)), (tb_in 54 (by decide +kernel) (by decide +kernel))⟩
theorem cv_X8_219 : Cv RX8 219 yX8_tiesOf cX8_tiesOf 6 (Option.some FieldType.int) 2 := ⟨cb_X8_tiesOf, (tb_in 1180 (by decide +kernel) (by decide +kernel)), (tb_in 1182 (by decide +kernel) (by decide +kernel)), (tb_in 46 (by decide +kernel) (by decide +kernel))⟩
theorem cv_X8_222 : Cv RX8 222 yX8_solve cX8_solve 9 (Option.none : Option FieldType) 4 := ⟨cb_X8_solve, (tb_in 1188 (by decide +kernel) (by decide +kernel)), (tb_in 1190 (by decide +kernel) (by decide +kernel)), (tb_in 48 (by decide +kernel) (by decide +kernel))⟩
theorem cs_X8_228 : Cs RX8 228 yX8_ones cX8_ones 3 (Option.some FieldType.int) 1 := ⟨cb_X8_ones, (tb_in 1230 (by decide +kernel) (by decide +kernel)), (tb_in 1231 (by decide +kernel) (by decide +kernel))⟩
theorem cv_X8_231 : Cv RX8 231 yX8_floatsOf cX8_floatsOf 9 (Option.some FieldType.int) 2 := ⟨cb_X8_floatsOf, (tb_in 1237 (by decide +kernel) (by decide +kernel)), (tb_in 1239 (by decide +kernel) (by decide +kernel)), (tb_in 55 (by decide +kernel) (by decide +kernel))⟩
theorem cv_X8_234 : Cv RX8 234 yX8_openNow cX8_openNow 4 (Option.some FieldType.int) 1 := ⟨cb_X8_openNow, (tb_in 1245 (by decide +kernel) (by decide +kernel)), (tb_in 1247 (by decide +kernel) (by decide +kernel)), (tb_in 56 (by decide +kernel) (by decide +kernel))⟩
theorem cv_X8_240 : Cv RX8 240 yX8_closesOf cX8_closesOf 6 (Option.some FieldType.int) 3 := ⟨cb_X8_closesOf, (tb_in 1261 (by decide +kernel) (by decide +kernel)), (tb_in 1263 (by decide +kernel) (by decide +kernel)), (tb_in 57 (by decide +kernel) (by decide +kernel))⟩
theorem cv_X8_243 : Cv RX8 243 yX8_mayLast cX8_mayLast 4 (Option.some FieldType.boolean) 3 := ⟨cb_X8_mayLast, (tb_in 1277 (by decide +kernel) (by decide +kernel)), (tb_in 1279 (by decide +kernel) (by decide +kernel)), (tb_in 58 (by decide +kernel) (by decide +kernel))⟩
theorem cv_X8_246 : Cv RX8 246 yX8_holdsTold cX8_holdsTold 4 (Option.some FieldType.boolean) 1 := ⟨cb_X8_holdsTold, (tb_in 1281 (by decide +kernel) (by decide +kernel)), (tb_in 1283 (by decide +kernel) (by decide +kernel)), (tb_in 59 (by decide +kernel) (by decide +kernel))⟩
theorem cv_X8_249 : Cv RX8 249 yX8_howMany cX8_howMany 2 (Option.some FieldType.int) 1 := ⟨cb_X8_howMany, (tb_in 1289 (by decide +kernel) (by decide +kernel)), (tb_in 1291 (by decide +kernel) (by decide +kernel)), (tb_in 60 (by decide +kernel) (by decide +kernel))⟩
theorem cv_X8_260 : Cv RX8 260 yX8_mix cX8_mix 3 (Option.none : Option FieldType) 1 := ⟨cb_X8_mix, (tb_in 1298 (by decide +kernel) (by decide +kernel)), (tb_in 1300 (by decide +kernel) (by decide +kernel)), (tb_in 61 (by decide +kernel) (by decide +kernel))⟩
end
section
theorem dJ_abs_0 : decode cJ_abs 0 = .ok (.iload_n 0, 1) := by decide +kernel
theorem dJ_abs_1 : decode cJ_abs 1 = .ok (.ifCond .ge 8, 3) := by decide +kernel
theorem dJ_abs_4 : decode cJ_abs 4 = .ok (.iload_n 0, 1) := by decide +kernel
theorem dJ_abs_5 : decode cJ_abs 5 = .ok (.ineg, 1) := by decide +kernel
theorem dJ_abs_6 : decode cJ_abs 6 = .ok (.goto 4, 3) := by decide +kernel
theorem dJ_abs_9 : decode cJ_abs 9 = .ok (.iload_n 0, 1) := by decide +kernel
theorem dJ_abs_10 : decode cJ_abs 10 = .ok (.ireturn, 1) := by decide +kernel
theorem dJ_bitCount_0 : decode cJ_bitCount 0 = .ok (.iload_n 0, 1) := by decide +kernel
theorem dJ_bitCount_1 : decode cJ_bitCount 1 = .ok (.iload_n 0, 1) := by decide +kernel
theorem dJ_bitCount_2 : decode cJ_bitCount 2 = .ok (.iconst 1, 1) := by decide +kernel
theorem dJ_bitCount_3 : decode cJ_bitCount 3 = .ok (.iushr, 1) := by decide +kernel
theorem dJ_bitCount_4 : decode cJ_bitCount 4 = .ok (.ldc_w 265, 3) := by decide +kernel
theorem dJ_bitCount_7 : decode cJ_bitCount 7 = .ok (.iand, 1) := by decide +kernel
theorem dJ_bitCount_8 : decode cJ_bitCount 8 = .ok (.isub, 1) := by decide +kernel
theorem dJ_bitCount_9 : decode cJ_bitCount 9 = .ok (.istore_n 0, 1) := by decide +kernel
theorem dJ_bitCount_10 : decode cJ_bitCount 10 = .ok (.iload_n 0, 1) := by decide +kernel
theorem dJ_bitCount_11 : decode cJ_bitCount 11 = .ok (.ldc_w 266, 3) := by decide +kernel
theorem dJ_bitCount_14 : decode cJ_bitCount 14 = .ok (.iand, 1) := by decide +kernel
theorem dJ_bitCount_15 : decode cJ_bitCount 15 = .ok (.iload_n 0, 1) := by decide +kernel
theorem dJ_bitCount_16 : decode cJ_bitCount 16 = .ok (.iconst 2, 1) := by decide +kernel
theorem dJ_bitCount_17 : decode cJ_bitCount 17 = .ok (.iushr, 1) := by decide +kernel
theorem dJ_bitCount_18 : decode cJ_bitCount 18 = .ok (.ldc_w 266, 3) := by decide +kernel
theorem dJ_bitCount_21 : decode cJ_bitCount 21 = .ok (.iand, 1) := by decide +kernel
theorem dJ_bitCount_22 : decode cJ_bitCount 22 = .ok (.iadd, 1) := by decide +kernel
theorem dJ_bitCount_23 : decode cJ_bitCount 23 = .ok (.istore_n 0, 1) := by decide +kernel
theorem dJ_bitCount_24 : decode cJ_bitCount 24 = .ok (.iload_n 0, 1) := by decide +kernel
theorem dJ_bitCount_25 : decode cJ_bitCount 25 = .ok (.iload_n 0, 1) := by decide +kernel
theorem dJ_bitCount_26 : decode cJ_bitCount 26 = .ok (.iconst 4, 1) := by decide +kernel
theorem dJ_bitCount_27 : decode cJ_bitCount 27 = .ok (.iushr, 1) := by decide +kernel
theorem dJ_bitCount_28 : decode cJ_bitCount 28 = .ok (.iadd, 1) := by decide +kernel
theorem dJ_bitCount_29 : decode cJ_bitCount 29 = .ok (.ldc_w 267, 3) := by decide +kernel
theorem dJ_bitCount_32 : decode cJ_bitCount 32 = .ok (.iand, 1) := by decide +kernel
theorem dJ_bitCount_33 : decode cJ_bitCount 33 = .ok (.istore_n 0, 1) := by decide +kernel
theorem dJ_bitCount_34 : decode cJ_bitCount 34 = .ok (.iload_n 0, 1) := by decide +kernel
theorem dJ_bitCount_35 : decode cJ_bitCount 35 = .ok (.iload_n 0, 1) := by decide +kernel
theorem dJ_bitCount_36 : decode cJ_bitCount 36 = .ok (.bipush 8, 2) := by decide +kernel
theorem dJ_bitCount_38 : decode cJ_bitCount 38 = .ok (.iushr, 1) := by decide +kernel
theorem dJ_bitCount_39 : decode cJ_bitCount 39 = .ok (.iadd, 1) := by decide +kernel
theorem dJ_bitCount_40 : decode cJ_bitCount 40 = .ok (.istore_n 0, 1) := by decide +kernel
theorem dJ_bitCount_41 : decode cJ_bitCount 41 = .ok (.iload_n 0, 1) := by decide +kernel
theorem dJ_bitCount_42 : decode cJ_bitCount 42 = .ok (.iload_n 0, 1) := by decide +kernel
theorem dJ_bitCount_43 : decode cJ_bitCount 43 = .ok (.bipush 16, 2) := by decide +kernel
theorem dJ_bitCount_45 : decode cJ_bitCount 45 = .ok (.iushr, 1) := by decide +kernel
theorem dJ_bitCount_46 : decode cJ_bitCount 46 = .ok (.iadd, 1) := by decide +kernel
theorem dJ_bitCount_47 : decode cJ_bitCount 47 = .ok (.istore_n 0, 1) := by decide +kernel
theorem dJ_bitCount_48 : decode cJ_bitCount 48 = .ok (.iload_n 0, 1) := by decide +kernel
theorem dJ_bitCount_49 : decode cJ_bitCount 49 = .ok (.bipush 63, 2) := by decide +kernel
theorem dJ_bitCount_51 : decode cJ_bitCount 51 = .ok (.iand, 1) := by decide +kernel
theorem dJ_bitCount_52 : decode cJ_bitCount 52 = .ok (.ireturn, 1) := by decide +kernel
theorem dJ_max_0 : decode cJ_max 0 = .ok (.iload_n 0, 1) := by decide +kernel
theorem dJ_max_1 : decode cJ_max 1 = .ok (.iload_n 1, 1) := by decide +kernel
theorem dJ_max_2 : decode cJ_max 2 = .ok (.if_icmp .lt 7, 3) := by decide +kernel
theorem dJ_max_5 : decode cJ_max 5 = .ok (.iload_n 0, 1) := by decide +kernel
theorem dJ_max_6 : decode cJ_max 6 = .ok (.goto 4, 3) := by decide +kernel
theorem dJ_max_9 : decode cJ_max 9 = .ok (.iload_n 1, 1) := by decide +kernel
theorem dJ_max_10 : decode cJ_max 10 = .ok (.ireturn, 1) := by decide +kernel
theorem dJ_min_0 : decode cJ_min 0 = .ok (.iload_n 0, 1) := by decide +kernel
theorem dJ_min_1 : decode cJ_min 1 = .ok (.iload_n 1, 1) := by decide +kernel
theorem dJ_min_2 : decode cJ_min 2 = .ok (.if_icmp .gt 7, 3) := by decide +kernel
theorem dJ_min_5 : decode cJ_min 5 = .ok (.iload_n 0, 1) := by decide +kernel
theorem dJ_min_6 : decode cJ_min 6 = .ok (.goto 4, 3) := by decide +kernel
theorem dJ_min_9 : decode cJ_min 9 = .ok (.iload_n 1, 1) := by decide +kernel
theorem dJ_min_10 : decode cJ_min 10 = .ok (.ireturn, 1) := by decide +kernel
theorem dX0_allows_0 : decode cX0_allows 0 = .ok (.iload_n 2, 1) := by decide +kernel
theorem dX0_allows_1 : decode cX0_allows 1 = .ok (.aload_n 0, 1) := by decide +kernel
theorem dX0_allows_2 : decode cX0_allows 2 = .ok (.iconst 0, 1) := by decide +kernel
theorem dX0_allows_3 : decode cX0_allows 3 = .ok (.iload_n 1, 1) := by decide +kernel
theorem dX0_allows_4 : decode cX0_allows 4 = .ok (.invokevirtual 40, 3) := by decide +kernel
theorem dX0_allows_7 : decode cX0_allows 7 = .ok (.if_icmp .gt 67, 3) := by decide +kernel
theorem dX0_allows_10 : decode cX0_allows 10 = .ok (.iload_n 2, 1) := by decide +kernel
theorem dX0_allows_11 : decode cX0_allows 11 = .ok (.ineg, 1) := by decide +kernel
theorem dX0_allows_12 : decode cX0_allows 12 = .ok (.aload_n 0, 1) := by decide +kernel
theorem dX0_allows_13 : decode cX0_allows 13 = .ok (.iload_n 1, 1) := by decide +kernel
theorem dX0_allows_14 : decode cX0_allows 14 = .ok (.iconst 0, 1) := by decide +kernel
theorem dX0_allows_15 : decode cX0_allows 15 = .ok (.invokevirtual 40, 3) := by decide +kernel
theorem dX0_allows_18 : decode cX0_allows 18 = .ok (.if_icmp .gt 56, 3) := by decide +kernel
theorem dX0_allows_21 : decode cX0_allows 21 = .ok (.iload 4, 2) := by decide +kernel
theorem dX0_allows_23 : decode cX0_allows 23 = .ok (.aload_n 0, 1) := by decide +kernel
theorem dX0_allows_24 : decode cX0_allows 24 = .ok (.iconst 0, 1) := by decide +kernel
theorem dX0_allows_25 : decode cX0_allows 25 = .ok (.iload_n 3, 1) := by decide +kernel
theorem dX0_allows_26 : decode cX0_allows 26 = .ok (.invokevirtual 40, 3) := by decide +kernel
theorem dX0_allows_29 : decode cX0_allows 29 = .ok (.if_icmp .gt 45, 3) := by decide +kernel
theorem dX0_allows_32 : decode cX0_allows 32 = .ok (.iload 4, 2) := by decide +kernel
theorem dX0_allows_34 : decode cX0_allows 34 = .ok (.ineg, 1) := by decide +kernel
theorem dX0_allows_35 : decode cX0_allows 35 = .ok (.aload_n 0, 1) := by decide +kernel
theorem dX0_allows_36 : decode cX0_allows 36 = .ok (.iload_n 3, 1) := by decide +kernel
theorem dX0_allows_37 : decode cX0_allows 37 = .ok (.iconst 0, 1) := by decide +kernel
theorem dX0_allows_38 : decode cX0_allows 38 = .ok (.invokevirtual 40, 3) := by decide +kernel
theorem dX0_allows_41 : decode cX0_allows 41 = .ok (.if_icmp .gt 33, 3) := by decide +kernel
theorem dX0_allows_44 : decode cX0_allows 44 = .ok (.iload 4, 2) := by decide +kernel
theorem dX0_allows_46 : decode cX0_allows 46 = .ok (.iload_n 2, 1) := by decide +kernel
theorem dX0_allows_47 : decode cX0_allows 47 = .ok (.isub, 1) := by decide +kernel
theorem dX0_allows_48 : decode cX0_allows 48 = .ok (.aload_n 0, 1) := by decide +kernel
theorem dX0_allows_49 : decode cX0_allows 49 = .ok (.iload_n 1, 1) := by decide +kernel
theorem dX0_allows_50 : decode cX0_allows 50 = .ok (.iload_n 3, 1) := by decide +kernel
theorem dX0_allows_51 : decode cX0_allows 51 = .ok (.invokevirtual 40, 3) := by decide +kernel
theorem dX0_allows_54 : decode cX0_allows 54 = .ok (.if_icmp .gt 20, 3) := by decide +kernel
theorem dX0_allows_57 : decode cX0_allows 57 = .ok (.iload_n 2, 1) := by decide +kernel
theorem dX0_allows_58 : decode cX0_allows 58 = .ok (.iload 4, 2) := by decide +kernel
theorem dX0_allows_60 : decode cX0_allows 60 = .ok (.isub, 1) := by decide +kernel
theorem dX0_allows_61 : decode cX0_allows 61 = .ok (.aload_n 0, 1) := by decide +kernel
theorem dX0_allows_62 : decode cX0_allows 62 = .ok (.iload_n 3, 1) := by decide +kernel
theorem dX0_allows_63 : decode cX0_allows 63 = .ok (.iload_n 1, 1) := by decide +kernel
theorem dX0_allows_64 : decode cX0_allows 64 = .ok (.invokevirtual 40, 3) := by decide +kernel
theorem dX0_allows_67 : decode cX0_allows 67 = .ok (.if_icmp .gt 7, 3) := by decide +kernel
theorem dX0_allows_70 : decode cX0_allows 70 = .ok (.iconst 1, 1) := by decide +kernel
theorem dX0_allows_71 : decode cX0_allows 71 = .ok (.goto 4, 3) := by decide +kernel
theorem dX0_allows_74 : decode cX0_allows 74 = .ok (.iconst 0, 1) := by decide +kernel
theorem dX0_allows_75 : decode cX0_allows 75 = .ok (.ireturn, 1) := by decide +kernel
theorem dX0_clear_0 : decode cX0_clear 0 = .ok (.aload_n 0, 1) := by decide +kernel
theorem dX0_clear_1 : decode cX0_clear 1 = .ok (.iload_n 1, 1) := by decide +kernel
theorem dX0_clear_2 : decode cX0_clear 2 = .ok (.iconst 0, 1) := by decide +kernel
theorem dX0_clear_3 : decode cX0_clear 3 = .ok (.bipush 11, 2) := by decide +kernel
theorem dX0_clear_5 : decode cX0_clear 5 = .ok (.invokestatic 19, 3) := by decide +kernel
theorem dX0_clear_8 : decode cX0_clear 8 = .ok (.ifCond .eq 7, 3) := by decide +kernel
theorem dX0_clear_11 : decode cX0_clear 11 = .ok (.iload_n 1, 1) := by decide +kernel
theorem dX0_clear_12 : decode cX0_clear 12 = .ok (.goto 4, 3) := by decide +kernel
theorem dX0_clear_15 : decode cX0_clear 15 = .ok (.iconst 0, 1) := by decide +kernel
theorem dX0_clear_16 : decode cX0_clear 16 = .ok (.putfield 15, 3) := by decide +kernel
theorem dX0_clear_19 : decode cX0_clear 19 = .ok (.iconst 0, 1) := by decide +kernel
theorem dX0_clear_20 : decode cX0_clear 20 = .ok (.istore_n 2, 1) := by decide +kernel
theorem dX0_clear_21 : decode cX0_clear 21 = .ok (.iload_n 2, 1) := by decide +kernel
theorem dX0_clear_22 : decode cX0_clear 22 = .ok (.aload_n 0, 1) := by decide +kernel
theorem dX0_clear_23 : decode cX0_clear 23 = .ok (.getfield 15, 3) := by decide +kernel
theorem dX0_clear_26 : decode cX0_clear 26 = .ok (.if_icmp .ge 74, 3) := by decide +kernel
theorem dX0_clear_29 : decode cX0_clear 29 = .ok (.iconst 0, 1) := by decide +kernel
theorem dX0_clear_30 : decode cX0_clear 30 = .ok (.istore_n 3, 1) := by decide +kernel
theorem dX0_clear_31 : decode cX0_clear 31 = .ok (.iload_n 3, 1) := by decide +kernel
theorem dX0_clear_32 : decode cX0_clear 32 = .ok (.aload_n 0, 1) := by decide +kernel
theorem dX0_clear_33 : decode cX0_clear 33 = .ok (.getfield 15, 3) := by decide +kernel
theorem dX0_clear_36 : decode cX0_clear 36 = .ok (.if_icmp .ge 58, 3) := by decide +kernel
theorem dX0_clear_39 : decode cX0_clear 39 = .ok (.iload_n 2, 1) := by decide +kernel
theorem dX0_clear_40 : decode cX0_clear 40 = .ok (.ifCond .ne 7, 3) := by decide +kernel
theorem dX0_clear_43 : decode cX0_clear 43 = .ok (.iconst 0, 1) := by decide +kernel
theorem dX0_clear_44 : decode cX0_clear 44 = .ok (.goto 6, 3) := by decide +kernel
theorem dX0_clear_47 : decode cX0_clear 47 = .ok (.sipush 2000, 3) := by decide +kernel
theorem dX0_clear_50 : decode cX0_clear 50 = .ok (.iload_n 3, 1) := by decide +kernel
theorem dX0_clear_51 : decode cX0_clear 51 = .ok (.ifCond .ne 7, 3) := by decide +kernel
theorem dX0_clear_54 : decode cX0_clear 54 = .ok (.iconst 0, 1) := by decide +kernel
theorem dX0_clear_55 : decode cX0_clear 55 = .ok (.goto 6, 3) := by decide +kernel
theorem dX0_clear_58 : decode cX0_clear 58 = .ok (.sipush 2000, 3) := by decide +kernel
theorem dX0_clear_61 : decode cX0_clear 61 = .ok (.iadd, 1) := by decide +kernel
theorem dX0_clear_62 : decode cX0_clear 62 = .ok (.istore 4, 2) := by decide +kernel
theorem dX0_clear_64 : decode cX0_clear 64 = .ok (.aload_n 0, 1) := by decide +kernel
theorem dX0_clear_65 : decode cX0_clear 65 = .ok (.getfield 11, 3) := by decide +kernel
theorem dX0_clear_68 : decode cX0_clear 68 = .ok (.iload_n 2, 1) := by decide +kernel
theorem dX0_clear_69 : decode cX0_clear 69 = .ok (.bipush 11, 2) := by decide +kernel
theorem dX0_clear_71 : decode cX0_clear 71 = .ok (.imul, 1) := by decide +kernel
theorem dX0_clear_72 : decode cX0_clear 72 = .ok (.iload_n 3, 1) := by decide +kernel
theorem dX0_clear_73 : decode cX0_clear 73 = .ok (.iadd, 1) := by decide +kernel
theorem dX0_clear_74 : decode cX0_clear 74 = .ok (.iload_n 2, 1) := by decide +kernel
theorem dX0_clear_75 : decode cX0_clear 75 = .ok (.iload_n 3, 1) := by decide +kernel
theorem dX0_clear_76 : decode cX0_clear 76 = .ok (.if_icmp .ne 7, 3) := by decide +kernel
theorem dX0_clear_79 : decode cX0_clear 79 = .ok (.iconst 0, 1) := by decide +kernel
theorem dX0_clear_80 : decode cX0_clear 80 = .ok (.goto 5, 3) := by decide +kernel
theorem dX0_clear_83 : decode cX0_clear 83 = .ok (.iload 4, 2) := by decide +kernel
theorem dX0_clear_85 : decode cX0_clear 85 = .ok (.invokestatic 23, 3) := by decide +kernel
theorem dX0_clear_88 : decode cX0_clear 88 = .ok (.iinc 3 1, 3) := by decide +kernel
theorem dX0_clear_91 : decode cX0_clear 91 = .ok (.goto (-60), 3) := by decide +kernel
theorem dX0_clear_94 : decode cX0_clear 94 = .ok (.iinc 2 1, 3) := by decide +kernel
theorem dX0_clear_97 : decode cX0_clear 97 = .ok (.goto (-76), 3) := by decide +kernel
theorem dX0_clear_100 : decode cX0_clear 100 = .ok (.return_, 1) := by decide +kernel
theorem dX0_copy_0 : decode cX0_copy 0 = .ok (.aload_n 0, 1) := by decide +kernel
theorem dX0_copy_1 : decode cX0_copy 1 = .ok (.aload_n 1, 1) := by decide +kernel
theorem dX0_copy_2 : decode cX0_copy 2 = .ok (.getfield 15, 3) := by decide +kernel
theorem dX0_copy_5 : decode cX0_copy 5 = .ok (.putfield 15, 3) := by decide +kernel
theorem dX0_copy_8 : decode cX0_copy 8 = .ok (.aload_n 1, 1) := by decide +kernel
theorem dX0_copy_9 : decode cX0_copy 9 = .ok (.getfield 11, 3) := by decide +kernel
theorem dX0_copy_12 : decode cX0_copy 12 = .ok (.iconst 0, 1) := by decide +kernel
theorem dX0_copy_13 : decode cX0_copy 13 = .ok (.aload_n 0, 1) := by decide +kernel
theorem dX0_copy_14 : decode cX0_copy 14 = .ok (.getfield 11, 3) := by decide +kernel
theorem dX0_copy_17 : decode cX0_copy 17 = .ok (.iconst 0, 1) := by decide +kernel
theorem dX0_copy_18 : decode cX0_copy 18 = .ok (.bipush 121, 2) := by decide +kernel
theorem dX0_copy_20 : decode cX0_copy 20 = .ok (.invokestatic 27, 3) := by decide +kernel
theorem dX0_copy_23 : decode cX0_copy 23 = .ok (.return_, 1) := by decide +kernel
theorem dX0_hold_0 : decode cX0_hold 0 = .ok (.aload_n 0, 1) := by decide +kernel
theorem dX0_hold_1 : decode cX0_hold 1 = .ok (.getfield 15, 3) := by decide +kernel
theorem dX0_hold_4 : decode cX0_hold 4 = .ok (.bipush 11, 2) := by decide +kernel
theorem dX0_hold_6 : decode cX0_hold 6 = .ok (.if_icmp .ge 10, 3) := by decide +kernel
theorem dX0_hold_9 : decode cX0_hold 9 = .ok (.aload_n 0, 1) := by decide +kernel
theorem dX0_hold_10 : decode cX0_hold 10 = .ok (.getfield 15, 3) := by decide +kernel
theorem dX0_hold_13 : decode cX0_hold 13 = .ok (.goto 5, 3) := by decide +kernel
theorem dX0_hold_16 : decode cX0_hold 16 = .ok (.bipush 11, 2) := by decide +kernel
theorem dX0_hold_18 : decode cX0_hold 18 = .ok (.istore 4, 2) := by decide +kernel
theorem dX0_hold_20 : decode cX0_hold 20 = .ok (.iload_n 1, 1) := by decide +kernel
theorem dX0_hold_21 : decode cX0_hold 21 = .ok (.ifCond .lt 19, 3) := by decide +kernel
theorem dX0_hold_24 : decode cX0_hold 24 = .ok (.iload_n 1, 1) := by decide +kernel
theorem dX0_hold_25 : decode cX0_hold 25 = .ok (.iload 4, 2) := by decide +kernel
theorem dX0_hold_27 : decode cX0_hold 27 = .ok (.if_icmp .ge 13, 3) := by decide +kernel
theorem dX0_hold_30 : decode cX0_hold 30 = .ok (.iload_n 2, 1) := by decide +kernel
theorem dX0_hold_31 : decode cX0_hold 31 = .ok (.ifCond .lt 9, 3) := by decide +kernel
theorem dX0_hold_34 : decode cX0_hold 34 = .ok (.iload_n 2, 1) := by decide +kernel
theorem dX0_hold_35 : decode cX0_hold 35 = .ok (.iload 4, 2) := by decide +kernel
theorem dX0_hold_37 : decode cX0_hold 37 = .ok (.if_icmp .lt 5, 3) := by decide +kernel
theorem dX0_hold_40 : decode cX0_hold 40 = .ok (.iconst 0, 1) := by decide +kernel
theorem dX0_hold_41 : decode cX0_hold 41 = .ok (.ireturn, 1) := by decide +kernel
theorem dX0_hold_42 : decode cX0_hold 42 = .ok (.iload_n 3, 1) := by decide +kernel
theorem dX0_hold_43 : decode cX0_hold 43 = .ok (.aload_n 0, 1) := by decide +kernel
theorem dX0_hold_44 : decode cX0_hold 44 = .ok (.getfield 11, 3) := by decide +kernel
theorem dX0_hold_47 : decode cX0_hold 47 = .ok (.iload_n 1, 1) := by decide +kernel
theorem dX0_hold_48 : decode cX0_hold 48 = .ok (.bipush 11, 2) := by decide +kernel
theorem dX0_hold_50 : decode cX0_hold 50 = .ok (.imul, 1) := by decide +kernel
theorem dX0_hold_51 : decode cX0_hold 51 = .ok (.iload_n 2, 1) := by decide +kernel
theorem dX0_hold_52 : decode cX0_hold 52 = .ok (.iadd, 1) := by decide +kernel
theorem dX0_hold_53 : decode cX0_hold 53 = .ok (.iaload, 1) := by decide +kernel
theorem dX0_hold_54 : decode cX0_hold 54 = .ok (.if_icmp .lt 5, 3) := by decide +kernel
theorem dX0_hold_57 : decode cX0_hold 57 = .ok (.iconst 1, 1) := by decide +kernel
theorem dX0_hold_58 : decode cX0_hold 58 = .ok (.ireturn, 1) := by decide +kernel
theorem dX0_hold_59 : decode cX0_hold 59 = .ok (.iload_n 3, 1) := by decide +kernel
theorem dX0_hold_60 : decode cX0_hold 60 = .ok (.aload_n 0, 1) := by decide +kernel
theorem dX0_hold_61 : decode cX0_hold 61 = .ok (.getfield 11, 3) := by decide +kernel
theorem dX0_hold_64 : decode cX0_hold 64 = .ok (.iload_n 2, 1) := by decide +kernel
theorem dX0_hold_65 : decode cX0_hold 65 = .ok (.bipush 11, 2) := by decide +kernel
theorem dX0_hold_67 : decode cX0_hold 67 = .ok (.imul, 1) := by decide +kernel
theorem dX0_hold_68 : decode cX0_hold 68 = .ok (.iload_n 1, 1) := by decide +kernel
theorem dX0_hold_69 : decode cX0_hold 69 = .ok (.iadd, 1) := by decide +kernel
theorem dX0_hold_70 : decode cX0_hold 70 = .ok (.iaload, 1) := by decide +kernel
theorem dX0_hold_71 : decode cX0_hold 71 = .ok (.ineg, 1) := by decide +kernel
theorem dX0_hold_72 : decode cX0_hold 72 = .ok (.if_icmp .ge 5, 3) := by decide +kernel
theorem dX0_hold_75 : decode cX0_hold 75 = .ok (.iconst 0, 1) := by decide +kernel
theorem dX0_hold_76 : decode cX0_hold 76 = .ok (.ireturn, 1) := by decide +kernel
theorem dX0_hold_77 : decode cX0_hold 77 = .ok (.iconst 0, 1) := by decide +kernel
theorem dX0_hold_78 : decode cX0_hold 78 = .ok (.istore 5, 2) := by decide +kernel
theorem dX0_hold_80 : decode cX0_hold 80 = .ok (.iload 5, 2) := by decide +kernel
theorem dX0_hold_82 : decode cX0_hold 82 = .ok (.iload 4, 2) := by decide +kernel
theorem dX0_hold_84 : decode cX0_hold 84 = .ok (.if_icmp .ge 106, 3) := by decide +kernel
theorem dX0_hold_87 : decode cX0_hold 87 = .ok (.iload 5, 2) := by decide +kernel
theorem dX0_hold_89 : decode cX0_hold 89 = .ok (.bipush 11, 2) := by decide +kernel
theorem dX0_hold_91 : decode cX0_hold 91 = .ok (.imul, 1) := by decide +kernel
theorem dX0_hold_92 : decode cX0_hold 92 = .ok (.istore 6, 2) := by decide +kernel
theorem dX0_hold_94 : decode cX0_hold 94 = .ok (.aload_n 0, 1) := by decide +kernel
theorem dX0_hold_95 : decode cX0_hold 95 = .ok (.getfield 11, 3) := by decide +kernel
theorem dX0_hold_98 : decode cX0_hold 98 = .ok (.iload 6, 2) := by decide +kernel
theorem dX0_hold_100 : decode cX0_hold 100 = .ok (.iload_n 1, 1) := by decide +kernel
theorem dX0_hold_101 : decode cX0_hold 101 = .ok (.iadd, 1) := by decide +kernel
theorem dX0_hold_102 : decode cX0_hold 102 = .ok (.iaload, 1) := by decide +kernel
theorem dX0_hold_103 : decode cX0_hold 103 = .ok (.iload_n 3, 1) := by decide +kernel
theorem dX0_hold_104 : decode cX0_hold 104 = .ok (.iadd, 1) := by decide +kernel
theorem dX0_hold_105 : decode cX0_hold 105 = .ok (.istore 7, 2) := by decide +kernel
theorem dX0_hold_107 : decode cX0_hold 107 = .ok (.iload 7, 2) := by decide +kernel
theorem dX0_hold_109 : decode cX0_hold 109 = .ok (.aload_n 0, 1) := by decide +kernel
theorem dX0_hold_110 : decode cX0_hold 110 = .ok (.getfield 11, 3) := by decide +kernel
theorem dX0_hold_113 : decode cX0_hold 113 = .ok (.iload 6, 2) := by decide +kernel
theorem dX0_hold_115 : decode cX0_hold 115 = .ok (.iload_n 2, 1) := by decide +kernel
theorem dX0_hold_116 : decode cX0_hold 116 = .ok (.iadd, 1) := by decide +kernel
theorem dX0_hold_117 : decode cX0_hold 117 = .ok (.iaload, 1) := by decide +kernel
theorem dX0_hold_118 : decode cX0_hold 118 = .ok (.if_icmp .lt 6, 3) := by decide +kernel
theorem dX0_hold_121 : decode cX0_hold 121 = .ok (.goto 63, 3) := by decide +kernel
theorem dX0_hold_124 : decode cX0_hold 124 = .ok (.iconst 0, 1) := by decide +kernel
theorem dX0_hold_125 : decode cX0_hold 125 = .ok (.istore 8, 2) := by decide +kernel
theorem dX0_hold_127 : decode cX0_hold 127 = .ok (.iload 8, 2) := by decide +kernel
theorem dX0_hold_129 : decode cX0_hold 129 = .ok (.iload 4, 2) := by decide +kernel
theorem dX0_hold_131 : decode cX0_hold 131 = .ok (.if_icmp .ge 53, 3) := by decide +kernel
theorem dX0_hold_134 : decode cX0_hold 134 = .ok (.iload 7, 2) := by decide +kernel
theorem dX0_hold_136 : decode cX0_hold 136 = .ok (.aload_n 0, 1) := by decide +kernel
theorem dX0_hold_137 : decode cX0_hold 137 = .ok (.getfield 11, 3) := by decide +kernel
theorem dX0_hold_140 : decode cX0_hold 140 = .ok (.iload_n 2, 1) := by decide +kernel
theorem dX0_hold_141 : decode cX0_hold 141 = .ok (.bipush 11, 2) := by decide +kernel
theorem dX0_hold_143 : decode cX0_hold 143 = .ok (.imul, 1) := by decide +kernel
theorem dX0_hold_144 : decode cX0_hold 144 = .ok (.iload 8, 2) := by decide +kernel
theorem dX0_hold_146 : decode cX0_hold 146 = .ok (.iadd, 1) := by decide +kernel
theorem dX0_hold_147 : decode cX0_hold 147 = .ok (.iaload, 1) := by decide +kernel
theorem dX0_hold_148 : decode cX0_hold 148 = .ok (.iadd, 1) := by decide +kernel
theorem dX0_hold_149 : decode cX0_hold 149 = .ok (.istore 9, 2) := by decide +kernel
theorem dX0_hold_151 : decode cX0_hold 151 = .ok (.iload 9, 2) := by decide +kernel
theorem dX0_hold_153 : decode cX0_hold 153 = .ok (.aload_n 0, 1) := by decide +kernel
theorem dX0_hold_154 : decode cX0_hold 154 = .ok (.getfield 11, 3) := by decide +kernel
theorem dX0_hold_157 : decode cX0_hold 157 = .ok (.iload 6, 2) := by decide +kernel
theorem dX0_hold_159 : decode cX0_hold 159 = .ok (.iload 8, 2) := by decide +kernel
theorem dX0_hold_161 : decode cX0_hold 161 = .ok (.iadd, 1) := by decide +kernel
theorem dX0_hold_162 : decode cX0_hold 162 = .ok (.iaload, 1) := by decide +kernel
theorem dX0_hold_163 : decode cX0_hold 163 = .ok (.if_icmp .ge 15, 3) := by decide +kernel
theorem dX0_hold_166 : decode cX0_hold 166 = .ok (.aload_n 0, 1) := by decide +kernel
theorem dX0_hold_167 : decode cX0_hold 167 = .ok (.getfield 11, 3) := by decide +kernel
theorem dX0_hold_170 : decode cX0_hold 170 = .ok (.iload 6, 2) := by decide +kernel
theorem dX0_hold_172 : decode cX0_hold 172 = .ok (.iload 8, 2) := by decide +kernel
theorem dX0_hold_174 : decode cX0_hold 174 = .ok (.iadd, 1) := by decide +kernel
theorem dX0_hold_175 : decode cX0_hold 175 = .ok (.iload 9, 2) := by decide +kernel
theorem dX0_hold_177 : decode cX0_hold 177 = .ok (.iastore, 1) := by decide +kernel
theorem dX0_hold_178 : decode cX0_hold 178 = .ok (.iinc 8 1, 3) := by decide +kernel
theorem dX0_hold_181 : decode cX0_hold 181 = .ok (.goto (-54), 3) := by decide +kernel
theorem dX0_hold_184 : decode cX0_hold 184 = .ok (.iinc 5 1, 3) := by decide +kernel
theorem dX0_hold_187 : decode cX0_hold 187 = .ok (.goto (-107), 3) := by decide +kernel
theorem dX0_hold_190 : decode cX0_hold 190 = .ok (.iconst 1, 1) := by decide +kernel
theorem dX0_hold_191 : decode cX0_hold 191 = .ok (.ireturn, 1) := by decide +kernel
theorem dX0_init_0 : decode cX0_init 0 = .ok (.aload_n 0, 1) := by decide +kernel
theorem dX0_init_1 : decode cX0_init 1 = .ok (.invokespecial 3, 3) := by decide +kernel
theorem dX0_init_4 : decode cX0_init 4 = .ok (.aload_n 0, 1) := by decide +kernel
theorem dX0_init_5 : decode cX0_init 5 = .ok (.bipush 121, 2) := by decide +kernel
theorem dX0_init_7 : decode cX0_init 7 = .ok (.newarray .int, 2) := by decide +kernel
theorem dX0_init_9 : decode cX0_init 9 = .ok (.putfield 11, 3) := by decide +kernel
theorem dX0_init_12 : decode cX0_init 12 = .ok (.aload_n 0, 1) := by decide +kernel
theorem dX0_init_13 : decode cX0_init 13 = .ok (.iconst 0, 1) := by decide +kernel
theorem dX0_init_14 : decode cX0_init 14 = .ok (.putfield 15, 3) := by decide +kernel
theorem dX0_init_17 : decode cX0_init 17 = .ok (.return_, 1) := by decide +kernel
theorem dX0_keep_0 : decode cX0_keep 0 = .ok (.aload_n 0, 1) := by decide +kernel
theorem dX0_keep_1 : decode cX0_keep 1 = .ok (.iload_n 1, 1) := by decide +kernel
theorem dX0_keep_2 : decode cX0_keep 2 = .ok (.iload_n 2, 1) := by decide +kernel
theorem dX0_keep_3 : decode cX0_keep 3 = .ok (.iload 4, 2) := by decide +kernel
theorem dX0_keep_5 : decode cX0_keep 5 = .ok (.invokevirtual 37, 3) := by decide +kernel
theorem dX0_keep_8 : decode cX0_keep 8 = .ok (.ifCond .eq 18, 3) := by decide +kernel
theorem dX0_keep_11 : decode cX0_keep 11 = .ok (.aload_n 0, 1) := by decide +kernel
theorem dX0_keep_12 : decode cX0_keep 12 = .ok (.iload_n 2, 1) := by decide +kernel
theorem dX0_keep_13 : decode cX0_keep 13 = .ok (.iload_n 1, 1) := by decide +kernel
theorem dX0_keep_14 : decode cX0_keep 14 = .ok (.iload_n 3, 1) := by decide +kernel
theorem dX0_keep_15 : decode cX0_keep 15 = .ok (.ineg, 1) := by decide +kernel
theorem dX0_keep_16 : decode cX0_keep 16 = .ok (.invokevirtual 37, 3) := by decide +kernel
theorem dX0_keep_19 : decode cX0_keep 19 = .ok (.ifCond .eq 7, 3) := by decide +kernel
theorem dX0_keep_22 : decode cX0_keep 22 = .ok (.iconst 1, 1) := by decide +kernel
theorem dX0_keep_23 : decode cX0_keep 23 = .ok (.goto 4, 3) := by decide +kernel
theorem dX0_keep_26 : decode cX0_keep 26 = .ok (.iconst 0, 1) := by decide +kernel
theorem dX0_keep_27 : decode cX0_keep 27 = .ok (.ireturn, 1) := by decide +kernel
theorem dX0_most_0 : decode cX0_most 0 = .ok (.aload_n 0, 1) := by decide +kernel
theorem dX0_most_1 : decode cX0_most 1 = .ok (.getfield 11, 3) := by decide +kernel
theorem dX0_most_4 : decode cX0_most 4 = .ok (.iload_n 1, 1) := by decide +kernel
theorem dX0_most_5 : decode cX0_most 5 = .ok (.bipush 11, 2) := by decide +kernel
theorem dX0_most_7 : decode cX0_most 7 = .ok (.imul, 1) := by decide +kernel
theorem dX0_most_8 : decode cX0_most 8 = .ok (.iload_n 2, 1) := by decide +kernel
theorem dX0_most_9 : decode cX0_most 9 = .ok (.iadd, 1) := by decide +kernel
theorem dX0_most_10 : decode cX0_most 10 = .ok (.invokestatic 33, 3) := by decide +kernel
theorem dX0_most_13 : decode cX0_most 13 = .ok (.ireturn, 1) := by decide +kernel
theorem dX1_beginning_0 : decode cX1_beginning 0 = .ok (.iload_n 1, 1) := by decide +kernel
theorem dX1_beginning_1 : decode cX1_beginning 1 = .ok (.iconst (-1), 1) := by decide +kernel
theorem dX1_beginning_2 : decode cX1_beginning 2 = .ok (.if_icmp .ne 7, 3) := by decide +kernel
theorem dX1_beginning_5 : decode cX1_beginning 5 = .ok (.iconst 0, 1) := by decide +kernel
theorem dX1_beginning_6 : decode cX1_beginning 6 = .ok (.goto 12, 3) := by decide +kernel
theorem dX1_beginning_9 : decode cX1_beginning 9 = .ok (.aload_n 0, 1) := by decide +kernel
theorem dX1_beginning_10 : decode cX1_beginning 10 = .ok (.getfield 15, 3) := by decide +kernel
theorem dX1_beginning_13 : decode cX1_beginning 13 = .ok (.iload_n 1, 1) := by decide +kernel
theorem dX1_beginning_14 : decode cX1_beginning 14 = .ok (.iload_n 2, 1) := by decide +kernel
theorem dX1_beginning_15 : decode cX1_beginning 15 = .ok (.invokevirtual 143, 3) := by decide +kernel
theorem dX1_beginning_18 : decode cX1_beginning 18 = .ok (.ireturn, 1) := by decide +kernel
theorem dX1_end_0 : decode cX1_end 0 = .ok (.aload_n 0, 1) := by decide +kernel
theorem dX1_end_1 : decode cX1_end 1 = .ok (.getfield 70, 3) := by decide +kernel
theorem dX1_end_4 : decode cX1_end 4 = .ok (.ifCond .eq 18, 3) := by decide +kernel
theorem dX1_end_7 : decode cX1_end 7 = .ok (.aload_n 0, 1) := by decide +kernel
theorem dX1_end_8 : decode cX1_end 8 = .ok (.getfield 9, 3) := by decide +kernel
theorem dX1_end_11 : decode cX1_end 11 = .ok (.iload_n 1, 1) := by decide +kernel
theorem dX1_end_12 : decode cX1_end 12 = .ok (.aload_n 0, 1) := by decide +kernel
theorem dX1_end_13 : decode cX1_end 13 = .ok (.getfield 57, 3) := by decide +kernel
theorem dX1_end_16 : decode cX1_end 16 = .ok (.invokevirtual 88, 3) := by decide +kernel
theorem dX1_end_19 : decode cX1_end 19 = .ok (.ifCond .ne 7, 3) := by decide +kernel
theorem dX1_end_22 : decode cX1_end 22 = .ok (.sipush (-9999), 3) := by decide +kernel
theorem dX1_end_25 : decode cX1_end 25 = .ok (.ireturn, 1) := by decide +kernel
theorem dX1_end_26 : decode cX1_end 26 = .ok (.iload_n 2, 1) := by decide +kernel
theorem dX1_end_27 : decode cX1_end 27 = .ok (.ifCond .ne 10, 3) := by decide +kernel
theorem dX1_end_30 : decode cX1_end 30 = .ok (.aload_n 0, 1) := by decide +kernel
theorem dX1_end_31 : decode cX1_end 31 = .ok (.getfield 45, 3) := by decide +kernel
theorem dX1_end_34 : decode cX1_end 34 = .ok (.goto 7, 3) := by decide +kernel
theorem dX1_end_37 : decode cX1_end 37 = .ok (.aload_n 0, 1) := by decide +kernel
theorem dX1_end_38 : decode cX1_end 38 = .ok (.getfield 48, 3) := by decide +kernel
theorem dX1_end_41 : decode cX1_end 41 = .ok (.iload_n 1, 1) := by decide +kernel
theorem dX1_end_42 : decode cX1_end 42 = .ok (.invokestatic 153, 3) := by decide +kernel
theorem dX1_end_45 : decode cX1_end 45 = .ok (.ireturn, 1) := by decide +kernel
theorem dX1_find_0 : decode cX1_find 0 = .ok (.aload_n 0, 1) := by decide +kernel
theorem dX1_find_1 : decode cX1_find 1 = .ok (.iconst 0, 1) := by decide +kernel
theorem dX1_find_2 : decode cX1_find 2 = .ok (.putfield 70, 3) := by decide +kernel
theorem dX1_find_5 : decode cX1_find 5 = .ok (.aload_n 0, 1) := by decide +kernel
theorem dX1_find_6 : decode cX1_find 6 = .ok (.iload_n 1, 1) := by decide +kernel
theorem dX1_find_7 : decode cX1_find 7 = .ok (.invokevirtual 118, 3) := by decide +kernel
theorem dX1_find_10 : decode cX1_find 10 = .ok (.ifCond .eq 20, 3) := by decide +kernel
theorem dX1_find_13 : decode cX1_find 13 = .ok (.iload_n 2, 1) := by decide +kernel
theorem dX1_find_14 : decode cX1_find 14 = .ok (.iconst (-1), 1) := by decide +kernel
theorem dX1_find_15 : decode cX1_find 15 = .ok (.if_icmp .eq 17, 3) := by decide +kernel
theorem dX1_find_18 : decode cX1_find 18 = .ok (.aload_n 0, 1) := by decide +kernel
theorem dX1_find_19 : decode cX1_find 19 = .ok (.aload_n 0, 1) := by decide +kernel
theorem dX1_find_20 : decode cX1_find 20 = .ok (.getfield 19, 3) := by decide +kernel
theorem dX1_find_23 : decode cX1_find 23 = .ok (.iload_n 2, 1) := by decide +kernel
theorem dX1_find_24 : decode cX1_find 24 = .ok (.invokevirtual 121, 3) := by decide +kernel
theorem dX1_find_27 : decode cX1_find 27 = .ok (.ifCond .ne 5, 3) := by decide +kernel
theorem dX1_find_30 : decode cX1_find 30 = .ok (.iconst 0, 1) := by decide +kernel
theorem dX1_find_31 : decode cX1_find 31 = .ok (.ireturn, 1) := by decide +kernel
theorem dX1_find_32 : decode cX1_find 32 = .ok (.iconst 0, 1) := by decide +kernel
theorem dX1_find_33 : decode cX1_find 33 = .ok (.istore 4, 2) := by decide +kernel
theorem dX1_find_35 : decode cX1_find 35 = .ok (.iload 4, 2) := by decide +kernel
theorem dX1_find_37 : decode cX1_find 37 = .ok (.iconst 1, 1) := by decide +kernel
theorem dX1_find_38 : decode cX1_find 38 = .ok (.aload_n 0, 1) := by decide +kernel
theorem dX1_find_39 : decode cX1_find 39 = .ok (.getfield 61, 3) := by decide +kernel
theorem dX1_find_42 : decode cX1_find 42 = .ok (.ishl, 1) := by decide +kernel
theorem dX1_find_43 : decode cX1_find 43 = .ok (.if_icmp .ge 47, 3) := by decide +kernel
theorem dX1_find_46 : decode cX1_find 46 = .ok (.aload_n 0, 1) := by decide +kernel
theorem dX1_find_47 : decode cX1_find 47 = .ok (.getfield 32, 3) := by decide +kernel
theorem dX1_find_50 : decode cX1_find 50 = .ok (.aload_n 0, 1) := by decide +kernel
theorem dX1_find_51 : decode cX1_find 51 = .ok (.getfield 29, 3) := by decide +kernel
theorem dX1_find_54 : decode cX1_find 54 = .ok (.invokevirtual 125, 3) := by decide +kernel
theorem dX1_find_57 : decode cX1_find 57 = .ok (.aload_n 0, 1) := by decide +kernel
theorem dX1_find_58 : decode cX1_find 58 = .ok (.iload 4, 2) := by decide +kernel
theorem dX1_find_60 : decode cX1_find 60 = .ok (.invokevirtual 129, 3) := by decide +kernel
theorem dX1_find_63 : decode cX1_find 63 = .ok (.ifCond .eq 8, 3) := by decide +kernel
theorem dX1_find_66 : decode cX1_find 66 = .ok (.aload_n 0, 1) := by decide +kernel
theorem dX1_find_67 : decode cX1_find 67 = .ok (.iload_n 3, 1) := by decide +kernel
theorem dX1_find_68 : decode cX1_find 68 = .ok (.invokevirtual 132, 3) := by decide +kernel
theorem dX1_find_71 : decode cX1_find 71 = .ok (.aload_n 0, 1) := by decide +kernel
theorem dX1_find_72 : decode cX1_find 72 = .ok (.getfield 70, 3) := by decide +kernel
theorem dX1_find_75 : decode cX1_find 75 = .ok (.ifCond .eq 9, 3) := by decide +kernel
theorem dX1_find_78 : decode cX1_find 78 = .ok (.iload_n 3, 1) := by decide +kernel
theorem dX1_find_79 : decode cX1_find 79 = .ok (.ifCond .ne 5, 3) := by decide +kernel
theorem dX1_find_82 : decode cX1_find 82 = .ok (.iconst 1, 1) := by decide +kernel
theorem dX1_find_83 : decode cX1_find 83 = .ok (.ireturn, 1) := by decide +kernel
theorem dX1_find_84 : decode cX1_find 84 = .ok (.iinc 4 1, 3) := by decide +kernel
theorem dX1_find_87 : decode cX1_find 87 = .ok (.goto (-52), 3) := by decide +kernel
theorem dX1_find_90 : decode cX1_find 90 = .ok (.aload_n 0, 1) := by decide +kernel
theorem dX1_find_91 : decode cX1_find 91 = .ok (.getfield 70, 3) := by decide +kernel
theorem dX1_find_94 : decode cX1_find 94 = .ok (.ireturn, 1) := by decide +kernel
theorem dX1_firstUnlikeKept_0 : decode cX1_firstUnlikeKept 0 = .ok (.iconst 0, 1) := by decide +kernel
theorem dX1_firstUnlikeKept_1 : decode cX1_firstUnlikeKept 1 = .ok (.istore_n 1, 1) := by decide +kernel
theorem dX1_firstUnlikeKept_2 : decode cX1_firstUnlikeKept 2 = .ok (.iload_n 1, 1) := by decide +kernel
theorem dX1_firstUnlikeKept_3 : decode cX1_firstUnlikeKept 3 = .ok (.aload_n 0, 1) := by decide +kernel
theorem dX1_firstUnlikeKept_4 : decode cX1_firstUnlikeKept 4 = .ok (.getfield 9, 3) := by decide +kernel
theorem dX1_firstUnlikeKept_7 : decode cX1_firstUnlikeKept 7 = .ok (.invokevirtual 74, 3) := by decide +kernel
theorem dX1_firstUnlikeKept_10 : decode cX1_firstUnlikeKept 10 = .ok (.if_icmp .ge 45, 3) := by decide +kernel
theorem dX1_firstUnlikeKept_13 : decode cX1_firstUnlikeKept 13 = .ok (.aload_n 0, 1) := by decide +kernel
theorem dX1_firstUnlikeKept_14 : decode cX1_firstUnlikeKept 14 = .ok (.getfield 51, 3) := by decide +kernel
theorem dX1_firstUnlikeKept_17 : decode cX1_firstUnlikeKept 17 = .ok (.iload_n 1, 1) := by decide +kernel
theorem dX1_firstUnlikeKept_18 : decode cX1_firstUnlikeKept 18 = .ok (.invokestatic 153, 3) := by decide +kernel
theorem dX1_firstUnlikeKept_21 : decode cX1_firstUnlikeKept 21 = .ok (.aload_n 0, 1) := by decide +kernel
theorem dX1_firstUnlikeKept_22 : decode cX1_firstUnlikeKept 22 = .ok (.iload_n 1, 1) := by decide +kernel
theorem dX1_firstUnlikeKept_23 : decode cX1_firstUnlikeKept 23 = .ok (.iconst 0, 1) := by decide +kernel
theorem dX1_firstUnlikeKept_24 : decode cX1_firstUnlikeKept 24 = .ok (.invokevirtual 182, 3) := by decide +kernel
theorem dX1_firstUnlikeKept_27 : decode cX1_firstUnlikeKept 27 = .ok (.if_icmp .ne 20, 3) := by decide +kernel
theorem dX1_firstUnlikeKept_30 : decode cX1_firstUnlikeKept 30 = .ok (.aload_n 0, 1) := by decide +kernel
theorem dX1_firstUnlikeKept_31 : decode cX1_firstUnlikeKept 31 = .ok (.getfield 54, 3) := by decide +kernel
theorem dX1_firstUnlikeKept_34 : decode cX1_firstUnlikeKept 34 = .ok (.iload_n 1, 1) := by decide +kernel
theorem dX1_firstUnlikeKept_35 : decode cX1_firstUnlikeKept 35 = .ok (.invokestatic 153, 3) := by decide +kernel
theorem dX1_firstUnlikeKept_38 : decode cX1_firstUnlikeKept 38 = .ok (.aload_n 0, 1) := by decide +kernel
theorem dX1_firstUnlikeKept_39 : decode cX1_firstUnlikeKept 39 = .ok (.iload_n 1, 1) := by decide +kernel
theorem dX1_firstUnlikeKept_40 : decode cX1_firstUnlikeKept 40 = .ok (.iconst 1, 1) := by decide +kernel
theorem dX1_firstUnlikeKept_41 : decode cX1_firstUnlikeKept 41 = .ok (.invokevirtual 182, 3) := by decide +kernel
theorem dX1_firstUnlikeKept_44 : decode cX1_firstUnlikeKept 44 = .ok (.if_icmp .eq 5, 3) := by decide +kernel
theorem dX1_firstUnlikeKept_47 : decode cX1_firstUnlikeKept 47 = .ok (.iload_n 1, 1) := by decide +kernel
theorem dX1_firstUnlikeKept_48 : decode cX1_firstUnlikeKept 48 = .ok (.ireturn, 1) := by decide +kernel
theorem dX1_firstUnlikeKept_49 : decode cX1_firstUnlikeKept 49 = .ok (.iinc 1 1, 3) := by decide +kernel
theorem dX1_firstUnlikeKept_52 : decode cX1_firstUnlikeKept 52 = .ok (.goto (-50), 3) := by decide +kernel
theorem dX1_firstUnlikeKept_55 : decode cX1_firstUnlikeKept 55 = .ok (.iconst (-1), 1) := by decide +kernel
theorem dX1_firstUnlikeKept_56 : decode cX1_firstUnlikeKept 56 = .ok (.ireturn, 1) := by decide +kernel
theorem dX1_init_0 : decode cX1_init 0 = .ok (.aload_n 0, 1) := by decide +kernel
theorem dX1_init_1 : decode cX1_init 1 = .ok (.invokespecial 3, 3) := by decide +kernel
theorem dX1_init_4 : decode cX1_init 4 = .ok (.aload_n 0, 1) := by decide +kernel
theorem dX1_init_5 : decode cX1_init 5 = .ok (.aload_n 1, 1) := by decide +kernel
theorem dX1_init_6 : decode cX1_init 6 = .ok (.putfield 9, 3) := by decide +kernel
theorem dX1_init_9 : decode cX1_init 9 = .ok (.aload_n 0, 1) := by decide +kernel
theorem dX1_init_10 : decode cX1_init 10 = .ok (.aload_n 2, 1) := by decide +kernel
theorem dX1_init_11 : decode cX1_init 11 = .ok (.putfield 15, 3) := by decide +kernel
theorem dX1_init_14 : decode cX1_init 14 = .ok (.aload_n 0, 1) := by decide +kernel
theorem dX1_init_15 : decode cX1_init 15 = .ok (.aload_n 3, 1) := by decide +kernel
theorem dX1_init_16 : decode cX1_init 16 = .ok (.putfield 19, 3) := by decide +kernel
theorem dX1_init_19 : decode cX1_init 19 = .ok (.aload_n 0, 1) := by decide +kernel
theorem dX1_init_20 : decode cX1_init 20 = .ok (.new 22, 3) := by decide +kernel
theorem dX1_init_23 : decode cX1_init 23 = .ok (.dup, 1) := by decide +kernel
theorem dX1_init_24 : decode cX1_init 24 = .ok (.invokespecial 24, 3) := by decide +kernel
theorem dX1_init_27 : decode cX1_init 27 = .ok (.putfield 25, 3) := by decide +kernel
theorem dX1_init_30 : decode cX1_init 30 = .ok (.aload_n 0, 1) := by decide +kernel
theorem dX1_init_31 : decode cX1_init 31 = .ok (.new 22, 3) := by decide +kernel
theorem dX1_init_34 : decode cX1_init 34 = .ok (.dup, 1) := by decide +kernel
theorem dX1_init_35 : decode cX1_init 35 = .ok (.invokespecial 24, 3) := by decide +kernel
theorem dX1_init_38 : decode cX1_init 38 = .ok (.putfield 29, 3) := by decide +kernel
theorem dX1_init_41 : decode cX1_init 41 = .ok (.aload_n 0, 1) := by decide +kernel
theorem dX1_init_42 : decode cX1_init 42 = .ok (.new 22, 3) := by decide +kernel
theorem dX1_init_45 : decode cX1_init 45 = .ok (.dup, 1) := by decide +kernel
theorem dX1_init_46 : decode cX1_init 46 = .ok (.invokespecial 24, 3) := by decide +kernel
theorem dX1_init_49 : decode cX1_init 49 = .ok (.putfield 32, 3) := by decide +kernel
theorem dX1_init_52 : decode cX1_init 52 = .ok (.aload_n 0, 1) := by decide +kernel
theorem dX1_init_53 : decode cX1_init 53 = .ok (.iconst 3, 1) := by decide +kernel
theorem dX1_init_54 : decode cX1_init 54 = .ok (.newarray .int, 2) := by decide +kernel
theorem dX1_init_56 : decode cX1_init 56 = .ok (.putfield 35, 3) := by decide +kernel
theorem dX1_init_59 : decode cX1_init 59 = .ok (.aload_n 0, 1) := by decide +kernel
theorem dX1_init_60 : decode cX1_init 60 = .ok (.iconst 3, 1) := by decide +kernel
theorem dX1_init_61 : decode cX1_init 61 = .ok (.newarray .int, 2) := by decide +kernel
theorem dX1_init_63 : decode cX1_init 63 = .ok (.putfield 39, 3) := by decide +kernel
theorem dX1_init_66 : decode cX1_init 66 = .ok (.aload_n 0, 1) := by decide +kernel
theorem dX1_init_67 : decode cX1_init 67 = .ok (.iconst 3, 1) := by decide +kernel
theorem dX1_init_68 : decode cX1_init 68 = .ok (.newarray .int, 2) := by decide +kernel
theorem dX1_init_70 : decode cX1_init 70 = .ok (.putfield 42, 3) := by decide +kernel
theorem dX1_init_73 : decode cX1_init 73 = .ok (.aload_n 0, 1) := by decide +kernel
theorem dX1_init_74 : decode cX1_init 74 = .ok (.bipush 10, 2) := by decide +kernel
theorem dX1_init_76 : decode cX1_init 76 = .ok (.newarray .int, 2) := by decide +kernel
theorem dX1_init_78 : decode cX1_init 78 = .ok (.putfield 45, 3) := by decide +kernel
theorem dX1_init_81 : decode cX1_init 81 = .ok (.aload_n 0, 1) := by decide +kernel
theorem dX1_init_82 : decode cX1_init 82 = .ok (.bipush 10, 2) := by decide +kernel
theorem dX1_init_84 : decode cX1_init 84 = .ok (.newarray .int, 2) := by decide +kernel
theorem dX1_init_86 : decode cX1_init 86 = .ok (.putfield 48, 3) := by decide +kernel
theorem dX1_init_89 : decode cX1_init 89 = .ok (.aload_n 0, 1) := by decide +kernel
theorem dX1_init_90 : decode cX1_init 90 = .ok (.bipush 10, 2) := by decide +kernel
theorem dX1_init_92 : decode cX1_init 92 = .ok (.newarray .int, 2) := by decide +kernel
theorem dX1_init_94 : decode cX1_init 94 = .ok (.putfield 51, 3) := by decide +kernel
theorem dX1_init_97 : decode cX1_init 97 = .ok (.aload_n 0, 1) := by decide +kernel
theorem dX1_init_98 : decode cX1_init 98 = .ok (.bipush 10, 2) := by decide +kernel
theorem dX1_init_100 : decode cX1_init 100 = .ok (.newarray .int, 2) := by decide +kernel
theorem dX1_init_102 : decode cX1_init 102 = .ok (.putfield 54, 3) := by decide +kernel
theorem dX1_init_105 : decode cX1_init 105 = .ok (.aload_n 0, 1) := by decide +kernel
theorem dX1_init_106 : decode cX1_init 106 = .ok (.iconst 0, 1) := by decide +kernel
theorem dX1_init_107 : decode cX1_init 107 = .ok (.putfield 57, 3) := by decide +kernel
theorem dX1_init_110 : decode cX1_init 110 = .ok (.aload_n 0, 1) := by decide +kernel
theorem dX1_init_111 : decode cX1_init 111 = .ok (.iconst 0, 1) := by decide +kernel
theorem dX1_init_112 : decode cX1_init 112 = .ok (.putfield 61, 3) := by decide +kernel
theorem dX1_init_115 : decode cX1_init 115 = .ok (.aload_n 0, 1) := by decide +kernel
theorem dX1_init_116 : decode cX1_init 116 = .ok (.iconst (-1), 1) := by decide +kernel
theorem dX1_init_117 : decode cX1_init 117 = .ok (.putfield 64, 3) := by decide +kernel
theorem dX1_init_120 : decode cX1_init 120 = .ok (.aload_n 0, 1) := by decide +kernel
theorem dX1_init_121 : decode cX1_init 121 = .ok (.iconst (-1), 1) := by decide +kernel
theorem dX1_init_122 : decode cX1_init 122 = .ok (.putfield 67, 3) := by decide +kernel
theorem dX1_init_125 : decode cX1_init 125 = .ok (.aload_n 0, 1) := by decide +kernel
theorem dX1_init_126 : decode cX1_init 126 = .ok (.iconst 0, 1) := by decide +kernel
theorem dX1_init_127 : decode cX1_init 127 = .ok (.putfield 70, 3) := by decide +kernel
theorem dX1_init_130 : decode cX1_init 130 = .ok (.return_, 1) := by decide +kernel
theorem dX1_keepSpans_0 : decode cX1_keepSpans 0 = .ok (.iconst 0, 1) := by decide +kernel
theorem dX1_keepSpans_1 : decode cX1_keepSpans 1 = .ok (.istore_n 1, 1) := by decide +kernel
theorem dX1_keepSpans_2 : decode cX1_keepSpans 2 = .ok (.iload_n 1, 1) := by decide +kernel
theorem dX1_keepSpans_3 : decode cX1_keepSpans 3 = .ok (.aload_n 0, 1) := by decide +kernel
theorem dX1_keepSpans_4 : decode cX1_keepSpans 4 = .ok (.getfield 9, 3) := by decide +kernel
theorem dX1_keepSpans_7 : decode cX1_keepSpans 7 = .ok (.invokevirtual 74, 3) := by decide +kernel
theorem dX1_keepSpans_10 : decode cX1_keepSpans 10 = .ok (.if_icmp .ge 37, 3) := by decide +kernel
theorem dX1_keepSpans_13 : decode cX1_keepSpans 13 = .ok (.aload_n 0, 1) := by decide +kernel
theorem dX1_keepSpans_14 : decode cX1_keepSpans 14 = .ok (.getfield 51, 3) := by decide +kernel
theorem dX1_keepSpans_17 : decode cX1_keepSpans 17 = .ok (.iload_n 1, 1) := by decide +kernel
theorem dX1_keepSpans_18 : decode cX1_keepSpans 18 = .ok (.aload_n 0, 1) := by decide +kernel
theorem dX1_keepSpans_19 : decode cX1_keepSpans 19 = .ok (.iload_n 1, 1) := by decide +kernel
theorem dX1_keepSpans_20 : decode cX1_keepSpans 20 = .ok (.iconst 0, 1) := by decide +kernel
theorem dX1_keepSpans_21 : decode cX1_keepSpans 21 = .ok (.invokevirtual 182, 3) := by decide +kernel
theorem dX1_keepSpans_24 : decode cX1_keepSpans 24 = .ok (.invokestatic 114, 3) := by decide +kernel
theorem dX1_keepSpans_27 : decode cX1_keepSpans 27 = .ok (.aload_n 0, 1) := by decide +kernel
theorem dX1_keepSpans_28 : decode cX1_keepSpans 28 = .ok (.getfield 54, 3) := by decide +kernel
theorem dX1_keepSpans_31 : decode cX1_keepSpans 31 = .ok (.iload_n 1, 1) := by decide +kernel
theorem dX1_keepSpans_32 : decode cX1_keepSpans 32 = .ok (.aload_n 0, 1) := by decide +kernel
theorem dX1_keepSpans_33 : decode cX1_keepSpans 33 = .ok (.iload_n 1, 1) := by decide +kernel
theorem dX1_keepSpans_34 : decode cX1_keepSpans 34 = .ok (.iconst 1, 1) := by decide +kernel
theorem dX1_keepSpans_35 : decode cX1_keepSpans 35 = .ok (.invokevirtual 182, 3) := by decide +kernel
theorem dX1_keepSpans_38 : decode cX1_keepSpans 38 = .ok (.invokestatic 114, 3) := by decide +kernel
theorem dX1_keepSpans_41 : decode cX1_keepSpans 41 = .ok (.iinc 1 1, 3) := by decide +kernel
theorem dX1_keepSpans_44 : decode cX1_keepSpans 44 = .ok (.goto (-42), 3) := by decide +kernel
theorem dX1_keepSpans_47 : decode cX1_keepSpans 47 = .ok (.return_, 1) := by decide +kernel
theorem dX1_layBehind_0 : decode cX1_layBehind 0 = .ok (.aload_n 0, 1) := by decide +kernel
theorem dX1_layBehind_1 : decode cX1_layBehind 1 = .ok (.getfield 9, 3) := by decide +kernel
theorem dX1_layBehind_4 : decode cX1_layBehind 4 = .ok (.iload_n 2, 1) := by decide +kernel
theorem dX1_layBehind_5 : decode cX1_layBehind 5 = .ok (.iload_n 3, 1) := by decide +kernel
theorem dX1_layBehind_6 : decode cX1_layBehind 6 = .ok (.invokevirtual 96, 3) := by decide +kernel
theorem dX1_layBehind_9 : decode cX1_layBehind 9 = .ok (.aload_n 0, 1) := by decide +kernel
theorem dX1_layBehind_10 : decode cX1_layBehind 10 = .ok (.getfield 9, 3) := by decide +kernel
theorem dX1_layBehind_13 : decode cX1_layBehind 13 = .ok (.iload_n 1, 1) := by decide +kernel
theorem dX1_layBehind_14 : decode cX1_layBehind 14 = .ok (.invokevirtual 99, 3) := by decide +kernel
theorem dX1_layBehind_17 : decode cX1_layBehind 17 = .ok (.isub, 1) := by decide +kernel
theorem dX1_layBehind_18 : decode cX1_layBehind 18 = .ok (.istore 4, 2) := by decide +kernel
theorem dX1_layBehind_20 : decode cX1_layBehind 20 = .ok (.aload_n 0, 1) := by decide +kernel
theorem dX1_layBehind_21 : decode cX1_layBehind 21 = .ok (.getfield 9, 3) := by decide +kernel
theorem dX1_layBehind_24 : decode cX1_layBehind 24 = .ok (.iload_n 2, 1) := by decide +kernel
theorem dX1_layBehind_25 : decode cX1_layBehind 25 = .ok (.iload_n 3, 1) := by decide +kernel
theorem dX1_layBehind_26 : decode cX1_layBehind 26 = .ok (.invokevirtual 103, 3) := by decide +kernel
theorem dX1_layBehind_29 : decode cX1_layBehind 29 = .ok (.aload_n 0, 1) := by decide +kernel
theorem dX1_layBehind_30 : decode cX1_layBehind 30 = .ok (.getfield 9, 3) := by decide +kernel
theorem dX1_layBehind_33 : decode cX1_layBehind 33 = .ok (.iload_n 1, 1) := by decide +kernel
theorem dX1_layBehind_34 : decode cX1_layBehind 34 = .ok (.invokevirtual 99, 3) := by decide +kernel
theorem dX1_layBehind_37 : decode cX1_layBehind 37 = .ok (.isub, 1) := by decide +kernel
theorem dX1_layBehind_38 : decode cX1_layBehind 38 = .ok (.istore 5, 2) := by decide +kernel
theorem dX1_layBehind_40 : decode cX1_layBehind 40 = .ok (.aload_n 0, 1) := by decide +kernel
theorem dX1_layBehind_41 : decode cX1_layBehind 41 = .ok (.getfield 25, 3) := by decide +kernel
theorem dX1_layBehind_44 : decode cX1_layBehind 44 = .ok (.iload_n 2, 1) := by decide +kernel
theorem dX1_layBehind_45 : decode cX1_layBehind 45 = .ok (.iconst 1, 1) := by decide +kernel
theorem dX1_layBehind_46 : decode cX1_layBehind 46 = .ok (.iadd, 1) := by decide +kernel
theorem dX1_layBehind_47 : decode cX1_layBehind 47 = .ok (.iload_n 1, 1) := by decide +kernel
theorem dX1_layBehind_48 : decode cX1_layBehind 48 = .ok (.iconst 1, 1) := by decide +kernel
theorem dX1_layBehind_49 : decode cX1_layBehind 49 = .ok (.iadd, 1) := by decide +kernel
theorem dX1_layBehind_50 : decode cX1_layBehind 50 = .ok (.iload 4, 2) := by decide +kernel
theorem dX1_layBehind_52 : decode cX1_layBehind 52 = .ok (.iload 5, 2) := by decide +kernel
theorem dX1_layBehind_54 : decode cX1_layBehind 54 = .ok (.invokevirtual 106, 3) := by decide +kernel
theorem dX1_layBehind_57 : decode cX1_layBehind 57 = .ok (.pop, 1) := by decide +kernel
theorem dX1_layBehind_58 : decode cX1_layBehind 58 = .ok (.aload_n 0, 1) := by decide +kernel
theorem dX1_layBehind_59 : decode cX1_layBehind 59 = .ok (.getfield 9, 3) := by decide +kernel
theorem dX1_layBehind_62 : decode cX1_layBehind 62 = .ok (.iload_n 2, 1) := by decide +kernel
theorem dX1_layBehind_63 : decode cX1_layBehind 63 = .ok (.invokevirtual 110, 3) := by decide +kernel
theorem dX1_layBehind_66 : decode cX1_layBehind 66 = .ok (.ifCond .eq 58, 3) := by decide +kernel
theorem dX1_layBehind_69 : decode cX1_layBehind 69 = .ok (.iload 4, 2) := by decide +kernel
theorem dX1_layBehind_71 : decode cX1_layBehind 71 = .ok (.iload 5, 2) := by decide +kernel
theorem dX1_layBehind_73 : decode cX1_layBehind 73 = .ok (.if_icmp .eq 51, 3) := by decide +kernel
theorem dX1_layBehind_76 : decode cX1_layBehind 76 = .ok (.aload_n 0, 1) := by decide +kernel
theorem dX1_layBehind_77 : decode cX1_layBehind 77 = .ok (.getfield 35, 3) := by decide +kernel
theorem dX1_layBehind_80 : decode cX1_layBehind 80 = .ok (.aload_n 0, 1) := by decide +kernel
theorem dX1_layBehind_81 : decode cX1_layBehind 81 = .ok (.getfield 61, 3) := by decide +kernel
theorem dX1_layBehind_84 : decode cX1_layBehind 84 = .ok (.iload_n 1, 1) := by decide +kernel
theorem dX1_layBehind_85 : decode cX1_layBehind 85 = .ok (.invokestatic 114, 3) := by decide +kernel
theorem dX1_layBehind_88 : decode cX1_layBehind 88 = .ok (.aload_n 0, 1) := by decide +kernel
theorem dX1_layBehind_89 : decode cX1_layBehind 89 = .ok (.getfield 39, 3) := by decide +kernel
theorem dX1_layBehind_92 : decode cX1_layBehind 92 = .ok (.aload_n 0, 1) := by decide +kernel
theorem dX1_layBehind_93 : decode cX1_layBehind 93 = .ok (.getfield 61, 3) := by decide +kernel
theorem dX1_layBehind_96 : decode cX1_layBehind 96 = .ok (.iload 4, 2) := by decide +kernel
theorem dX1_layBehind_98 : decode cX1_layBehind 98 = .ok (.invokestatic 114, 3) := by decide +kernel
theorem dX1_layBehind_101 : decode cX1_layBehind 101 = .ok (.aload_n 0, 1) := by decide +kernel
theorem dX1_layBehind_102 : decode cX1_layBehind 102 = .ok (.getfield 42, 3) := by decide +kernel
theorem dX1_layBehind_105 : decode cX1_layBehind 105 = .ok (.aload_n 0, 1) := by decide +kernel
theorem dX1_layBehind_106 : decode cX1_layBehind 106 = .ok (.getfield 61, 3) := by decide +kernel
theorem dX1_layBehind_109 : decode cX1_layBehind 109 = .ok (.iload 5, 2) := by decide +kernel
theorem dX1_layBehind_111 : decode cX1_layBehind 111 = .ok (.invokestatic 114, 3) := by decide +kernel
theorem dX1_layBehind_114 : decode cX1_layBehind 114 = .ok (.aload_n 0, 1) := by decide +kernel
theorem dX1_layBehind_115 : decode cX1_layBehind 115 = .ok (.dup, 1) := by decide +kernel
theorem dX1_layBehind_116 : decode cX1_layBehind 116 = .ok (.getfield 61, 3) := by decide +kernel
theorem dX1_layBehind_119 : decode cX1_layBehind 119 = .ok (.iconst 1, 1) := by decide +kernel
theorem dX1_layBehind_120 : decode cX1_layBehind 120 = .ok (.iadd, 1) := by decide +kernel
theorem dX1_layBehind_121 : decode cX1_layBehind 121 = .ok (.putfield 61, 3) := by decide +kernel
theorem dX1_layBehind_124 : decode cX1_layBehind 124 = .ok (.return_, 1) := by decide +kernel
theorem dX1_layLists_0 : decode cX1_layLists 0 = .ok (.aload_n 0, 1) := by decide +kernel
theorem dX1_layLists_1 : decode cX1_layLists 1 = .ok (.iload_n 1, 1) := by decide +kernel
theorem dX1_layLists_2 : decode cX1_layLists 2 = .ok (.putfield 57, 3) := by decide +kernel
theorem dX1_layLists_5 : decode cX1_layLists 5 = .ok (.aload_n 0, 1) := by decide +kernel
theorem dX1_layLists_6 : decode cX1_layLists 6 = .ok (.iconst 0, 1) := by decide +kernel
theorem dX1_layLists_7 : decode cX1_layLists 7 = .ok (.putfield 61, 3) := by decide +kernel
theorem dX1_layLists_10 : decode cX1_layLists 10 = .ok (.aload_n 0, 1) := by decide +kernel
theorem dX1_layLists_11 : decode cX1_layLists 11 = .ok (.getfield 25, 3) := by decide +kernel
theorem dX1_layLists_14 : decode cX1_layLists 14 = .ok (.aload_n 0, 1) := by decide +kernel
theorem dX1_layLists_15 : decode cX1_layLists 15 = .ok (.getfield 9, 3) := by decide +kernel
theorem dX1_layLists_18 : decode cX1_layLists 18 = .ok (.invokevirtual 74, 3) := by decide +kernel
theorem dX1_layLists_21 : decode cX1_layLists 21 = .ok (.iconst 1, 1) := by decide +kernel
theorem dX1_layLists_22 : decode cX1_layLists 22 = .ok (.iadd, 1) := by decide +kernel
theorem dX1_layLists_23 : decode cX1_layLists 23 = .ok (.invokevirtual 80, 3) := by decide +kernel
theorem dX1_layLists_26 : decode cX1_layLists 26 = .ok (.iconst 0, 1) := by decide +kernel
theorem dX1_layLists_27 : decode cX1_layLists 27 = .ok (.istore_n 3, 1) := by decide +kernel
theorem dX1_layLists_28 : decode cX1_layLists 28 = .ok (.iload_n 3, 1) := by decide +kernel
theorem dX1_layLists_29 : decode cX1_layLists 29 = .ok (.aload_n 0, 1) := by decide +kernel
theorem dX1_layLists_30 : decode cX1_layLists 30 = .ok (.getfield 9, 3) := by decide +kernel
theorem dX1_layLists_33 : decode cX1_layLists 33 = .ok (.invokevirtual 74, 3) := by decide +kernel
theorem dX1_layLists_36 : decode cX1_layLists 36 = .ok (.if_icmp .ge 54, 3) := by decide +kernel
theorem dX1_layLists_39 : decode cX1_layLists 39 = .ok (.aload_n 0, 1) := by decide +kernel
theorem dX1_layLists_40 : decode cX1_layLists 40 = .ok (.getfield 9, 3) := by decide +kernel
theorem dX1_layLists_43 : decode cX1_layLists 43 = .ok (.iload_n 3, 1) := by decide +kernel
theorem dX1_layLists_44 : decode cX1_layLists 44 = .ok (.iconst 5, 1) := by decide +kernel
theorem dX1_layLists_45 : decode cX1_layLists 45 = .ok (.invokevirtual 84, 3) := by decide +kernel
theorem dX1_layLists_48 : decode cX1_layLists 48 = .ok (.istore 4, 2) := by decide +kernel
theorem dX1_layLists_50 : decode cX1_layLists 50 = .ok (.iload 4, 2) := by decide +kernel
theorem dX1_layLists_52 : decode cX1_layLists 52 = .ok (.iconst (-1), 1) := by decide +kernel
theorem dX1_layLists_53 : decode cX1_layLists 53 = .ok (.if_icmp .eq 31, 3) := by decide +kernel
theorem dX1_layLists_56 : decode cX1_layLists 56 = .ok (.aload_n 0, 1) := by decide +kernel
theorem dX1_layLists_57 : decode cX1_layLists 57 = .ok (.getfield 9, 3) := by decide +kernel
theorem dX1_layLists_60 : decode cX1_layLists 60 = .ok (.iload_n 3, 1) := by decide +kernel
theorem dX1_layLists_61 : decode cX1_layLists 61 = .ok (.aload_n 0, 1) := by decide +kernel
theorem dX1_layLists_62 : decode cX1_layLists 62 = .ok (.getfield 57, 3) := by decide +kernel
theorem dX1_layLists_65 : decode cX1_layLists 65 = .ok (.invokevirtual 88, 3) := by decide +kernel
theorem dX1_layLists_68 : decode cX1_layLists 68 = .ok (.ifCond .eq 16, 3) := by decide +kernel
theorem dX1_layLists_71 : decode cX1_layLists 71 = .ok (.aload_n 0, 1) := by decide +kernel
theorem dX1_layLists_72 : decode cX1_layLists 72 = .ok (.iload_n 3, 1) := by decide +kernel
theorem dX1_layLists_73 : decode cX1_layLists 73 = .ok (.iload 4, 2) := by decide +kernel
theorem dX1_layLists_75 : decode cX1_layLists 75 = .ok (.iload_n 2, 1) := by decide +kernel
theorem dX1_layLists_76 : decode cX1_layLists 76 = .ok (.iload 4, 2) := by decide +kernel
theorem dX1_layLists_78 : decode cX1_layLists 78 = .ok (.ishr, 1) := by decide +kernel
theorem dX1_layLists_79 : decode cX1_layLists 79 = .ok (.iconst 1, 1) := by decide +kernel
theorem dX1_layLists_80 : decode cX1_layLists 80 = .ok (.iand, 1) := by decide +kernel
theorem dX1_layLists_81 : decode cX1_layLists 81 = .ok (.invokevirtual 92, 3) := by decide +kernel
theorem dX1_layLists_84 : decode cX1_layLists 84 = .ok (.iinc 3 1, 3) := by decide +kernel
theorem dX1_layLists_87 : decode cX1_layLists 87 = .ok (.goto (-59), 3) := by decide +kernel
theorem dX1_layLists_90 : decode cX1_layLists 90 = .ok (.return_, 1) := by decide +kernel
theorem dX1_layPair_0 : decode cX1_layPair 0 = .ok (.aload_n 1, 1) := by decide +kernel
theorem dX1_layPair_1 : decode cX1_layPair 1 = .ok (.iload_n 2, 1) := by decide +kernel
theorem dX1_layPair_2 : decode cX1_layPair 2 = .ok (.iconst 5, 1) := by decide +kernel
theorem dX1_layPair_3 : decode cX1_layPair 3 = .ok (.invokevirtual 142, 3) := by decide +kernel
theorem dX1_layPair_6 : decode cX1_layPair 6 = .ok (.istore_n 3, 1) := by decide +kernel
theorem dX1_layPair_7 : decode cX1_layPair 7 = .ok (.aload_n 1, 1) := by decide +kernel
theorem dX1_layPair_8 : decode cX1_layPair 8 = .ok (.iload_n 2, 1) := by decide +kernel
theorem dX1_layPair_9 : decode cX1_layPair 9 = .ok (.invokevirtual 150, 3) := by decide +kernel
theorem dX1_layPair_12 : decode cX1_layPair 12 = .ok (.istore 4, 2) := by decide +kernel
theorem dX1_layPair_14 : decode cX1_layPair 14 = .ok (.aload_n 0, 1) := by decide +kernel
theorem dX1_layPair_15 : decode cX1_layPair 15 = .ok (.getfield 29, 3) := by decide +kernel
theorem dX1_layPair_18 : decode cX1_layPair 18 = .ok (.aload_n 1, 1) := by decide +kernel
theorem dX1_layPair_19 : decode cX1_layPair 19 = .ok (.iload_n 2, 1) := by decide +kernel
theorem dX1_layPair_20 : decode cX1_layPair 20 = .ok (.iconst 1, 1) := by decide +kernel
theorem dX1_layPair_21 : decode cX1_layPair 21 = .ok (.invokevirtual 142, 3) := by decide +kernel
theorem dX1_layPair_24 : decode cX1_layPair 24 = .ok (.iconst 1, 1) := by decide +kernel
theorem dX1_layPair_25 : decode cX1_layPair 25 = .ok (.iadd, 1) := by decide +kernel
theorem dX1_layPair_26 : decode cX1_layPair 26 = .ok (.aload_n 1, 1) := by decide +kernel
theorem dX1_layPair_27 : decode cX1_layPair 27 = .ok (.iload_n 2, 1) := by decide +kernel
theorem dX1_layPair_28 : decode cX1_layPair 28 = .ok (.iconst 3, 1) := by decide +kernel
theorem dX1_layPair_29 : decode cX1_layPair 29 = .ok (.invokevirtual 142, 3) := by decide +kernel
theorem dX1_layPair_32 : decode cX1_layPair 32 = .ok (.iconst 1, 1) := by decide +kernel
theorem dX1_layPair_33 : decode cX1_layPair 33 = .ok (.iadd, 1) := by decide +kernel
theorem dX1_layPair_34 : decode cX1_layPair 34 = .ok (.iload 4, 2) := by decide +kernel
theorem dX1_layPair_36 : decode cX1_layPair 36 = .ok (.iload_n 3, 1) := by decide +kernel
theorem dX1_layPair_37 : decode cX1_layPair 37 = .ok (.isub, 1) := by decide +kernel
theorem dX1_layPair_38 : decode cX1_layPair 38 = .ok (.iload 4, 2) := by decide +kernel
theorem dX1_layPair_40 : decode cX1_layPair 40 = .ok (.iload_n 3, 1) := by decide +kernel
theorem dX1_layPair_41 : decode cX1_layPair 41 = .ok (.iadd, 1) := by decide +kernel
theorem dX1_layPair_42 : decode cX1_layPair 42 = .ok (.invokevirtual 106, 3) := by decide +kernel
theorem dX1_layPair_45 : decode cX1_layPair 45 = .ok (.ireturn, 1) := by decide +kernel
theorem dX1_layTie_0 : decode cX1_layTie 0 = .ok (.aload_n 0, 1) := by decide +kernel
theorem dX1_layTie_1 : decode cX1_layTie 1 = .ok (.getfield 15, 3) := by decide +kernel
theorem dX1_layTie_4 : decode cX1_layTie 4 = .ok (.iload_n 1, 1) := by decide +kernel
theorem dX1_layTie_5 : decode cX1_layTie 5 = .ok (.iconst 1, 1) := by decide +kernel
theorem dX1_layTie_6 : decode cX1_layTie 6 = .ok (.invokevirtual 142, 3) := by decide +kernel
theorem dX1_layTie_9 : decode cX1_layTie 9 = .ok (.iconst 1, 1) := by decide +kernel
theorem dX1_layTie_10 : decode cX1_layTie 10 = .ok (.iadd, 1) := by decide +kernel
theorem dX1_layTie_11 : decode cX1_layTie 11 = .ok (.istore_n 2, 1) := by decide +kernel
theorem dX1_layTie_12 : decode cX1_layTie 12 = .ok (.aload_n 0, 1) := by decide +kernel
theorem dX1_layTie_13 : decode cX1_layTie 13 = .ok (.getfield 15, 3) := by decide +kernel
theorem dX1_layTie_16 : decode cX1_layTie 16 = .ok (.iload_n 1, 1) := by decide +kernel
theorem dX1_layTie_17 : decode cX1_layTie 17 = .ok (.iconst 0, 1) := by decide +kernel
theorem dX1_layTie_18 : decode cX1_layTie 18 = .ok (.invokevirtual 142, 3) := by decide +kernel
theorem dX1_layTie_21 : decode cX1_layTie 21 = .ok (.tableswitch 72 0 2 #[27, 37, 52], 27) := by decide +kernel
theorem dX1_layTie_48 : decode cX1_layTie 48 = .ok (.aload_n 0, 1) := by decide +kernel
theorem dX1_layTie_49 : decode cX1_layTie 49 = .ok (.aload_n 0, 1) := by decide +kernel
theorem dX1_layTie_50 : decode cX1_layTie 50 = .ok (.getfield 15, 3) := by decide +kernel
theorem dX1_layTie_53 : decode cX1_layTie 53 = .ok (.iload_n 1, 1) := by decide +kernel
theorem dX1_layTie_54 : decode cX1_layTie 54 = .ok (.invokevirtual 121, 3) := by decide +kernel
theorem dX1_layTie_57 : decode cX1_layTie 57 = .ok (.ireturn, 1) := by decide +kernel
theorem dX1_layTie_58 : decode cX1_layTie 58 = .ok (.aload_n 0, 1) := by decide +kernel
theorem dX1_layTie_59 : decode cX1_layTie 59 = .ok (.aload_n 0, 1) := by decide +kernel
theorem dX1_layTie_60 : decode cX1_layTie 60 = .ok (.getfield 64, 3) := by decide +kernel
theorem dX1_layTie_63 : decode cX1_layTie 63 = .ok (.putfield 67, 3) := by decide +kernel
theorem dX1_layTie_66 : decode cX1_layTie 66 = .ok (.aload_n 0, 1) := by decide +kernel
theorem dX1_layTie_67 : decode cX1_layTie 67 = .ok (.iload_n 1, 1) := by decide +kernel
theorem dX1_layTie_68 : decode cX1_layTie 68 = .ok (.putfield 64, 3) := by decide +kernel
theorem dX1_layTie_71 : decode cX1_layTie 71 = .ok (.iconst 1, 1) := by decide +kernel
theorem dX1_layTie_72 : decode cX1_layTie 72 = .ok (.ireturn, 1) := by decide +kernel
theorem dX1_layTie_73 : decode cX1_layTie 73 = .ok (.aload_n 0, 1) := by decide +kernel
theorem dX1_layTie_74 : decode cX1_layTie 74 = .ok (.getfield 29, 3) := by decide +kernel
theorem dX1_layTie_77 : decode cX1_layTie 77 = .ok (.iload_n 2, 1) := by decide +kernel
theorem dX1_layTie_78 : decode cX1_layTie 78 = .ok (.iconst 0, 1) := by decide +kernel
theorem dX1_layTie_79 : decode cX1_layTie 79 = .ok (.aload_n 0, 1) := by decide +kernel
theorem dX1_layTie_80 : decode cX1_layTie 80 = .ok (.getfield 15, 3) := by decide +kernel
theorem dX1_layTie_83 : decode cX1_layTie 83 = .ok (.iload_n 1, 1) := by decide +kernel
theorem dX1_layTie_84 : decode cX1_layTie 84 = .ok (.iconst 0, 1) := by decide +kernel
theorem dX1_layTie_85 : decode cX1_layTie 85 = .ok (.invokevirtual 143, 3) := by decide +kernel
theorem dX1_layTie_88 : decode cX1_layTie 88 = .ok (.ineg, 1) := by decide +kernel
theorem dX1_layTie_89 : decode cX1_layTie 89 = .ok (.invokevirtual 146, 3) := by decide +kernel
theorem dX1_layTie_92 : decode cX1_layTie 92 = .ok (.ireturn, 1) := by decide +kernel
theorem dX1_layTie_93 : decode cX1_layTie 93 = .ok (.aload_n 0, 1) := by decide +kernel
theorem dX1_layTie_94 : decode cX1_layTie 94 = .ok (.getfield 29, 3) := by decide +kernel
theorem dX1_layTie_97 : decode cX1_layTie 97 = .ok (.aload_n 0, 1) := by decide +kernel
theorem dX1_layTie_98 : decode cX1_layTie 98 = .ok (.getfield 15, 3) := by decide +kernel
theorem dX1_layTie_101 : decode cX1_layTie 101 = .ok (.iload_n 1, 1) := by decide +kernel
theorem dX1_layTie_102 : decode cX1_layTie 102 = .ok (.iconst 3, 1) := by decide +kernel
theorem dX1_layTie_103 : decode cX1_layTie 103 = .ok (.invokevirtual 142, 3) := by decide +kernel
theorem dX1_layTie_106 : decode cX1_layTie 106 = .ok (.iconst 1, 1) := by decide +kernel
theorem dX1_layTie_107 : decode cX1_layTie 107 = .ok (.iadd, 1) := by decide +kernel
theorem dX1_layTie_108 : decode cX1_layTie 108 = .ok (.iload_n 2, 1) := by decide +kernel
theorem dX1_layTie_109 : decode cX1_layTie 109 = .ok (.aload_n 0, 1) := by decide +kernel
theorem dX1_layTie_110 : decode cX1_layTie 110 = .ok (.getfield 15, 3) := by decide +kernel
theorem dX1_layTie_113 : decode cX1_layTie 113 = .ok (.iload_n 1, 1) := by decide +kernel
theorem dX1_layTie_114 : decode cX1_layTie 114 = .ok (.invokevirtual 150, 3) := by decide +kernel
theorem dX1_layTie_117 : decode cX1_layTie 117 = .ok (.ineg, 1) := by decide +kernel
theorem dX1_layTie_118 : decode cX1_layTie 118 = .ok (.invokevirtual 146, 3) := by decide +kernel
theorem dX1_layTie_121 : decode cX1_layTie 121 = .ok (.ireturn, 1) := by decide +kernel
theorem dX1_layTies_0 : decode cX1_layTies 0 = .ok (.aload_n 0, 1) := by decide +kernel
theorem dX1_layTies_1 : decode cX1_layTies 1 = .ok (.getfield 29, 3) := by decide +kernel
theorem dX1_layTies_4 : decode cX1_layTies 4 = .ok (.aload_n 0, 1) := by decide +kernel
theorem dX1_layTies_5 : decode cX1_layTies 5 = .ok (.getfield 25, 3) := by decide +kernel
theorem dX1_layTies_8 : decode cX1_layTies 8 = .ok (.invokevirtual 125, 3) := by decide +kernel
theorem dX1_layTies_11 : decode cX1_layTies 11 = .ok (.aload_n 0, 1) := by decide +kernel
theorem dX1_layTies_12 : decode cX1_layTies 12 = .ok (.iconst (-1), 1) := by decide +kernel
theorem dX1_layTies_13 : decode cX1_layTies 13 = .ok (.putfield 64, 3) := by decide +kernel
theorem dX1_layTies_16 : decode cX1_layTies 16 = .ok (.aload_n 0, 1) := by decide +kernel
theorem dX1_layTies_17 : decode cX1_layTies 17 = .ok (.iconst (-1), 1) := by decide +kernel
theorem dX1_layTies_18 : decode cX1_layTies 18 = .ok (.putfield 67, 3) := by decide +kernel
theorem dX1_layTies_21 : decode cX1_layTies 21 = .ok (.iconst 0, 1) := by decide +kernel
theorem dX1_layTies_22 : decode cX1_layTies 22 = .ok (.istore_n 2, 1) := by decide +kernel
theorem dX1_layTies_23 : decode cX1_layTies 23 = .ok (.iload_n 2, 1) := by decide +kernel
theorem dX1_layTies_24 : decode cX1_layTies 24 = .ok (.aload_n 0, 1) := by decide +kernel
theorem dX1_layTies_25 : decode cX1_layTies 25 = .ok (.getfield 15, 3) := by decide +kernel
theorem dX1_layTies_28 : decode cX1_layTies 28 = .ok (.invokevirtual 136, 3) := by decide +kernel
theorem dX1_layTies_31 : decode cX1_layTies 31 = .ok (.if_icmp .ge 27, 3) := by decide +kernel
theorem dX1_layTies_34 : decode cX1_layTies 34 = .ok (.iload_n 1, 1) := by decide +kernel
theorem dX1_layTies_35 : decode cX1_layTies 35 = .ok (.iconst 1, 1) := by decide +kernel
theorem dX1_layTies_36 : decode cX1_layTies 36 = .ok (.iload_n 2, 1) := by decide +kernel
theorem dX1_layTies_37 : decode cX1_layTies 37 = .ok (.ishl, 1) := by decide +kernel
theorem dX1_layTies_38 : decode cX1_layTies 38 = .ok (.iand, 1) := by decide +kernel
theorem dX1_layTies_39 : decode cX1_layTies 39 = .ok (.ifCond .eq 13, 3) := by decide +kernel
theorem dX1_layTies_42 : decode cX1_layTies 42 = .ok (.aload_n 0, 1) := by decide +kernel
theorem dX1_layTies_43 : decode cX1_layTies 43 = .ok (.iload_n 2, 1) := by decide +kernel
theorem dX1_layTies_44 : decode cX1_layTies 44 = .ok (.invokevirtual 139, 3) := by decide +kernel
theorem dX1_layTies_47 : decode cX1_layTies 47 = .ok (.ifCond .ne 5, 3) := by decide +kernel
theorem dX1_layTies_50 : decode cX1_layTies 50 = .ok (.iconst 0, 1) := by decide +kernel
theorem dX1_layTies_51 : decode cX1_layTies 51 = .ok (.ireturn, 1) := by decide +kernel
theorem dX1_layTies_52 : decode cX1_layTies 52 = .ok (.iinc 2 1, 3) := by decide +kernel
theorem dX1_layTies_55 : decode cX1_layTies 55 = .ok (.goto (-32), 3) := by decide +kernel
theorem dX1_layTies_58 : decode cX1_layTies 58 = .ok (.iconst 1, 1) := by decide +kernel
theorem dX1_layTies_59 : decode cX1_layTies 59 = .ok (.ireturn, 1) := by decide +kernel
theorem dX1_openness_0 : decode cX1_openness 0 = .ok (.iconst 0, 1) := by decide +kernel
theorem dX1_openness_1 : decode cX1_openness 1 = .ok (.istore_n 1, 1) := by decide +kernel
theorem dX1_openness_2 : decode cX1_openness 2 = .ok (.iconst 0, 1) := by decide +kernel
theorem dX1_openness_3 : decode cX1_openness 3 = .ok (.istore_n 2, 1) := by decide +kernel
theorem dX1_openness_4 : decode cX1_openness 4 = .ok (.iload_n 2, 1) := by decide +kernel
theorem dX1_openness_5 : decode cX1_openness 5 = .ok (.aload_n 0, 1) := by decide +kernel
theorem dX1_openness_6 : decode cX1_openness 6 = .ok (.getfield 9, 3) := by decide +kernel
theorem dX1_openness_9 : decode cX1_openness 9 = .ok (.invokevirtual 74, 3) := by decide +kernel
theorem dX1_openness_12 : decode cX1_openness 12 = .ok (.if_icmp .ge 25, 3) := by decide +kernel
theorem dX1_openness_15 : decode cX1_openness 15 = .ok (.iload_n 1, 1) := by decide +kernel
theorem dX1_openness_16 : decode cX1_openness 16 = .ok (.aload_n 0, 1) := by decide +kernel
theorem dX1_openness_17 : decode cX1_openness 17 = .ok (.iload_n 2, 1) := by decide +kernel
theorem dX1_openness_18 : decode cX1_openness 18 = .ok (.iconst 1, 1) := by decide +kernel
theorem dX1_openness_19 : decode cX1_openness 19 = .ok (.invokevirtual 182, 3) := by decide +kernel
theorem dX1_openness_22 : decode cX1_openness 22 = .ok (.aload_n 0, 1) := by decide +kernel
theorem dX1_openness_23 : decode cX1_openness 23 = .ok (.iload_n 2, 1) := by decide +kernel
theorem dX1_openness_24 : decode cX1_openness 24 = .ok (.iconst 0, 1) := by decide +kernel
theorem dX1_openness_25 : decode cX1_openness 25 = .ok (.invokevirtual 182, 3) := by decide +kernel
theorem dX1_openness_28 : decode cX1_openness 28 = .ok (.isub, 1) := by decide +kernel
theorem dX1_openness_29 : decode cX1_openness 29 = .ok (.iadd, 1) := by decide +kernel
theorem dX1_openness_30 : decode cX1_openness 30 = .ok (.istore_n 1, 1) := by decide +kernel
theorem dX1_openness_31 : decode cX1_openness 31 = .ok (.iinc 2 1, 3) := by decide +kernel
theorem dX1_openness_34 : decode cX1_openness 34 = .ok (.goto (-30), 3) := by decide +kernel
theorem dX1_openness_37 : decode cX1_openness 37 = .ok (.iload_n 1, 1) := by decide +kernel
theorem dX1_openness_38 : decode cX1_openness 38 = .ok (.ireturn, 1) := by decide +kernel
theorem dX1_pointOf_0 : decode cX1_pointOf 0 = .ok (.iload_n 1, 1) := by decide +kernel
theorem dX1_pointOf_1 : decode cX1_pointOf 1 = .ok (.iconst (-1), 1) := by decide +kernel
theorem dX1_pointOf_2 : decode cX1_pointOf 2 = .ok (.if_icmp .ne 7, 3) := by decide +kernel
theorem dX1_pointOf_5 : decode cX1_pointOf 5 = .ok (.iconst 0, 1) := by decide +kernel
theorem dX1_pointOf_6 : decode cX1_pointOf 6 = .ok (.goto 14, 3) := by decide +kernel
theorem dX1_pointOf_9 : decode cX1_pointOf 9 = .ok (.aload_n 0, 1) := by decide +kernel
theorem dX1_pointOf_10 : decode cX1_pointOf 10 = .ok (.getfield 15, 3) := by decide +kernel
theorem dX1_pointOf_13 : decode cX1_pointOf 13 = .ok (.iload_n 1, 1) := by decide +kernel
theorem dX1_pointOf_14 : decode cX1_pointOf 14 = .ok (.iconst 1, 1) := by decide +kernel
theorem dX1_pointOf_15 : decode cX1_pointOf 15 = .ok (.invokevirtual 142, 3) := by decide +kernel
theorem dX1_pointOf_18 : decode cX1_pointOf 18 = .ok (.iconst 1, 1) := by decide +kernel
theorem dX1_pointOf_19 : decode cX1_pointOf 19 = .ok (.iadd, 1) := by decide +kernel
theorem dX1_pointOf_20 : decode cX1_pointOf 20 = .ok (.ireturn, 1) := by decide +kernel
theorem dX1_takeForks_0 : decode cX1_takeForks 0 = .ok (.iconst 0, 1) := by decide +kernel
theorem dX1_takeForks_1 : decode cX1_takeForks 1 = .ok (.istore_n 2, 1) := by decide +kernel
theorem dX1_takeForks_2 : decode cX1_takeForks 2 = .ok (.iload_n 2, 1) := by decide +kernel
theorem dX1_takeForks_3 : decode cX1_takeForks 3 = .ok (.aload_n 0, 1) := by decide +kernel
theorem dX1_takeForks_4 : decode cX1_takeForks 4 = .ok (.getfield 61, 3) := by decide +kernel
theorem dX1_takeForks_7 : decode cX1_takeForks 7 = .ok (.if_icmp .ge 77, 3) := by decide +kernel
theorem dX1_takeForks_10 : decode cX1_takeForks 10 = .ok (.iload_n 1, 1) := by decide +kernel
theorem dX1_takeForks_11 : decode cX1_takeForks 11 = .ok (.iload_n 2, 1) := by decide +kernel
theorem dX1_takeForks_12 : decode cX1_takeForks 12 = .ok (.ishr, 1) := by decide +kernel
theorem dX1_takeForks_13 : decode cX1_takeForks 13 = .ok (.iconst 1, 1) := by decide +kernel
theorem dX1_takeForks_14 : decode cX1_takeForks 14 = .ok (.iand, 1) := by decide +kernel
theorem dX1_takeForks_15 : decode cX1_takeForks 15 = .ok (.ifCond .ne 10, 3) := by decide +kernel
theorem dX1_takeForks_18 : decode cX1_takeForks 18 = .ok (.aload_n 0, 1) := by decide +kernel
theorem dX1_takeForks_19 : decode cX1_takeForks 19 = .ok (.getfield 39, 3) := by decide +kernel
theorem dX1_takeForks_22 : decode cX1_takeForks 22 = .ok (.goto 7, 3) := by decide +kernel
theorem dX1_takeForks_25 : decode cX1_takeForks 25 = .ok (.aload_n 0, 1) := by decide +kernel
theorem dX1_takeForks_26 : decode cX1_takeForks 26 = .ok (.getfield 42, 3) := by decide +kernel
theorem dX1_takeForks_29 : decode cX1_takeForks 29 = .ok (.iload_n 2, 1) := by decide +kernel
theorem dX1_takeForks_30 : decode cX1_takeForks 30 = .ok (.invokestatic 153, 3) := by decide +kernel
theorem dX1_takeForks_33 : decode cX1_takeForks 33 = .ok (.istore_n 3, 1) := by decide +kernel
theorem dX1_takeForks_34 : decode cX1_takeForks 34 = .ok (.aload_n 0, 1) := by decide +kernel
theorem dX1_takeForks_35 : decode cX1_takeForks 35 = .ok (.getfield 35, 3) := by decide +kernel
theorem dX1_takeForks_38 : decode cX1_takeForks 38 = .ok (.iload_n 2, 1) := by decide +kernel
theorem dX1_takeForks_39 : decode cX1_takeForks 39 = .ok (.invokestatic 153, 3) := by decide +kernel
theorem dX1_takeForks_42 : decode cX1_takeForks 42 = .ok (.istore 4, 2) := by decide +kernel
theorem dX1_takeForks_44 : decode cX1_takeForks 44 = .ok (.aload_n 0, 1) := by decide +kernel
theorem dX1_takeForks_45 : decode cX1_takeForks 45 = .ok (.getfield 9, 3) := by decide +kernel
theorem dX1_takeForks_48 : decode cX1_takeForks 48 = .ok (.iload 4, 2) := by decide +kernel
theorem dX1_takeForks_50 : decode cX1_takeForks 50 = .ok (.iconst 5, 1) := by decide +kernel
theorem dX1_takeForks_51 : decode cX1_takeForks 51 = .ok (.invokevirtual 84, 3) := by decide +kernel
theorem dX1_takeForks_54 : decode cX1_takeForks 54 = .ok (.istore 5, 2) := by decide +kernel
theorem dX1_takeForks_56 : decode cX1_takeForks 56 = .ok (.aload_n 0, 1) := by decide +kernel
theorem dX1_takeForks_57 : decode cX1_takeForks 57 = .ok (.getfield 32, 3) := by decide +kernel
theorem dX1_takeForks_60 : decode cX1_takeForks 60 = .ok (.iload 5, 2) := by decide +kernel
theorem dX1_takeForks_62 : decode cX1_takeForks 62 = .ok (.iconst 1, 1) := by decide +kernel
theorem dX1_takeForks_63 : decode cX1_takeForks 63 = .ok (.iadd, 1) := by decide +kernel
theorem dX1_takeForks_64 : decode cX1_takeForks 64 = .ok (.iload 4, 2) := by decide +kernel
theorem dX1_takeForks_66 : decode cX1_takeForks 66 = .ok (.iconst 1, 1) := by decide +kernel
theorem dX1_takeForks_67 : decode cX1_takeForks 67 = .ok (.iadd, 1) := by decide +kernel
theorem dX1_takeForks_68 : decode cX1_takeForks 68 = .ok (.iload_n 3, 1) := by decide +kernel
theorem dX1_takeForks_69 : decode cX1_takeForks 69 = .ok (.iload_n 3, 1) := by decide +kernel
theorem dX1_takeForks_70 : decode cX1_takeForks 70 = .ok (.invokevirtual 106, 3) := by decide +kernel
theorem dX1_takeForks_73 : decode cX1_takeForks 73 = .ok (.ifCond .ne 5, 3) := by decide +kernel
theorem dX1_takeForks_76 : decode cX1_takeForks 76 = .ok (.iconst 0, 1) := by decide +kernel
theorem dX1_takeForks_77 : decode cX1_takeForks 77 = .ok (.ireturn, 1) := by decide +kernel
theorem dX1_takeForks_78 : decode cX1_takeForks 78 = .ok (.iinc 2 1, 3) := by decide +kernel
theorem dX1_takeForks_81 : decode cX1_takeForks 81 = .ok (.goto (-79), 3) := by decide +kernel
theorem dX1_takeForks_84 : decode cX1_takeForks 84 = .ok (.iconst 1, 1) := by decide +kernel
theorem dX1_takeForks_85 : decode cX1_takeForks 85 = .ok (.ireturn, 1) := by decide +kernel
theorem dX1_tryYears_0 : decode cX1_tryYears 0 = .ok (.iconst 0, 1) := by decide +kernel
theorem dX1_tryYears_1 : decode cX1_tryYears 1 = .ok (.istore_n 2, 1) := by decide +kernel
theorem dX1_tryYears_2 : decode cX1_tryYears 2 = .ok (.iload_n 2, 1) := by decide +kernel
theorem dX1_tryYears_3 : decode cX1_tryYears 3 = .ok (.aload_n 0, 1) := by decide +kernel
theorem dX1_tryYears_4 : decode cX1_tryYears 4 = .ok (.aload_n 0, 1) := by decide +kernel
theorem dX1_tryYears_5 : decode cX1_tryYears 5 = .ok (.getfield 64, 3) := by decide +kernel
theorem dX1_tryYears_8 : decode cX1_tryYears 8 = .ok (.invokevirtual 157, 3) := by decide +kernel
theorem dX1_tryYears_11 : decode cX1_tryYears 11 = .ok (.if_icmp .ge 106, 3) := by decide +kernel
theorem dX1_tryYears_14 : decode cX1_tryYears 14 = .ok (.aload_n 0, 1) := by decide +kernel
theorem dX1_tryYears_15 : decode cX1_tryYears 15 = .ok (.aload_n 0, 1) := by decide +kernel
theorem dX1_tryYears_16 : decode cX1_tryYears 16 = .ok (.getfield 64, 3) := by decide +kernel
theorem dX1_tryYears_19 : decode cX1_tryYears 19 = .ok (.iload_n 2, 1) := by decide +kernel
theorem dX1_tryYears_20 : decode cX1_tryYears 20 = .ok (.invokevirtual 160, 3) := by decide +kernel
theorem dX1_tryYears_23 : decode cX1_tryYears 23 = .ok (.istore_n 3, 1) := by decide +kernel
theorem dX1_tryYears_24 : decode cX1_tryYears 24 = .ok (.iconst 0, 1) := by decide +kernel
theorem dX1_tryYears_25 : decode cX1_tryYears 25 = .ok (.istore 4, 2) := by decide +kernel
theorem dX1_tryYears_27 : decode cX1_tryYears 27 = .ok (.iload 4, 2) := by decide +kernel
theorem dX1_tryYears_29 : decode cX1_tryYears 29 = .ok (.aload_n 0, 1) := by decide +kernel
theorem dX1_tryYears_30 : decode cX1_tryYears 30 = .ok (.aload_n 0, 1) := by decide +kernel
theorem dX1_tryYears_31 : decode cX1_tryYears 31 = .ok (.getfield 67, 3) := by decide +kernel
theorem dX1_tryYears_34 : decode cX1_tryYears 34 = .ok (.invokevirtual 157, 3) := by decide +kernel
theorem dX1_tryYears_37 : decode cX1_tryYears 37 = .ok (.if_icmp .ge 74, 3) := by decide +kernel
theorem dX1_tryYears_40 : decode cX1_tryYears 40 = .ok (.aload_n 0, 1) := by decide +kernel
theorem dX1_tryYears_41 : decode cX1_tryYears 41 = .ok (.aload_n 0, 1) := by decide +kernel
theorem dX1_tryYears_42 : decode cX1_tryYears 42 = .ok (.getfield 67, 3) := by decide +kernel
theorem dX1_tryYears_45 : decode cX1_tryYears 45 = .ok (.iload 4, 2) := by decide +kernel
theorem dX1_tryYears_47 : decode cX1_tryYears 47 = .ok (.invokevirtual 160, 3) := by decide +kernel
theorem dX1_tryYears_50 : decode cX1_tryYears 50 = .ok (.istore 5, 2) := by decide +kernel
theorem dX1_tryYears_52 : decode cX1_tryYears 52 = .ok (.aload_n 0, 1) := by decide +kernel
theorem dX1_tryYears_53 : decode cX1_tryYears 53 = .ok (.getfield 32, 3) := by decide +kernel
theorem dX1_tryYears_56 : decode cX1_tryYears 56 = .ok (.aload_n 0, 1) := by decide +kernel
theorem dX1_tryYears_57 : decode cX1_tryYears 57 = .ok (.aload_n 0, 1) := by decide +kernel
theorem dX1_tryYears_58 : decode cX1_tryYears 58 = .ok (.getfield 64, 3) := by decide +kernel
theorem dX1_tryYears_61 : decode cX1_tryYears 61 = .ok (.invokevirtual 161, 3) := by decide +kernel
theorem dX1_tryYears_64 : decode cX1_tryYears 64 = .ok (.iload_n 3, 1) := by decide +kernel
theorem dX1_tryYears_65 : decode cX1_tryYears 65 = .ok (.aload_n 0, 1) := by decide +kernel
theorem dX1_tryYears_66 : decode cX1_tryYears 66 = .ok (.aload_n 0, 1) := by decide +kernel
theorem dX1_tryYears_67 : decode cX1_tryYears 67 = .ok (.getfield 67, 3) := by decide +kernel
theorem dX1_tryYears_70 : decode cX1_tryYears 70 = .ok (.invokevirtual 161, 3) := by decide +kernel
theorem dX1_tryYears_73 : decode cX1_tryYears 73 = .ok (.iload 5, 2) := by decide +kernel
theorem dX1_tryYears_75 : decode cX1_tryYears 75 = .ok (.invokevirtual 164, 3) := by decide +kernel
theorem dX1_tryYears_78 : decode cX1_tryYears 78 = .ok (.ifCond .eq 15, 3) := by decide +kernel
theorem dX1_tryYears_81 : decode cX1_tryYears 81 = .ok (.aload_n 0, 1) := by decide +kernel
theorem dX1_tryYears_82 : decode cX1_tryYears 82 = .ok (.iload_n 3, 1) := by decide +kernel
theorem dX1_tryYears_83 : decode cX1_tryYears 83 = .ok (.iload 5, 2) := by decide +kernel
theorem dX1_tryYears_85 : decode cX1_tryYears 85 = .ok (.invokevirtual 167, 3) := by decide +kernel
theorem dX1_tryYears_88 : decode cX1_tryYears 88 = .ok (.aload_n 0, 1) := by decide +kernel
theorem dX1_tryYears_89 : decode cX1_tryYears 89 = .ok (.iconst 1, 1) := by decide +kernel
theorem dX1_tryYears_90 : decode cX1_tryYears 90 = .ok (.putfield 70, 3) := by decide +kernel
theorem dX1_tryYears_93 : decode cX1_tryYears 93 = .ok (.aload_n 0, 1) := by decide +kernel
theorem dX1_tryYears_94 : decode cX1_tryYears 94 = .ok (.getfield 70, 3) := by decide +kernel
theorem dX1_tryYears_97 : decode cX1_tryYears 97 = .ok (.ifCond .eq 8, 3) := by decide +kernel
theorem dX1_tryYears_100 : decode cX1_tryYears 100 = .ok (.iload_n 1, 1) := by decide +kernel
theorem dX1_tryYears_101 : decode cX1_tryYears 101 = .ok (.ifCond .ne 4, 3) := by decide +kernel
theorem dX1_tryYears_104 : decode cX1_tryYears 104 = .ok (.return_, 1) := by decide +kernel
theorem dX1_tryYears_105 : decode cX1_tryYears 105 = .ok (.iinc 4 1, 3) := by decide +kernel
theorem dX1_tryYears_108 : decode cX1_tryYears 108 = .ok (.goto (-81), 3) := by decide +kernel
theorem dX1_tryYears_111 : decode cX1_tryYears 111 = .ok (.iinc 2 1, 3) := by decide +kernel
theorem dX1_tryYears_114 : decode cX1_tryYears 114 = .ok (.goto (-112), 3) := by decide +kernel
theorem dX1_tryYears_117 : decode cX1_tryYears 117 = .ok (.return_, 1) := by decide +kernel
theorem dX1_widen_0 : decode cX1_widen 0 = .ok (.aload_n 0, 1) := by decide +kernel
theorem dX1_widen_1 : decode cX1_widen 1 = .ok (.aload_n 0, 1) := by decide +kernel
theorem dX1_widen_2 : decode cX1_widen 2 = .ok (.getfield 64, 3) := by decide +kernel
theorem dX1_widen_5 : decode cX1_widen 5 = .ok (.invokevirtual 161, 3) := by decide +kernel
theorem dX1_widen_8 : decode cX1_widen 8 = .ok (.istore_n 3, 1) := by decide +kernel
theorem dX1_widen_9 : decode cX1_widen 9 = .ok (.aload_n 0, 1) := by decide +kernel
theorem dX1_widen_10 : decode cX1_widen 10 = .ok (.aload_n 0, 1) := by decide +kernel
theorem dX1_widen_11 : decode cX1_widen 11 = .ok (.getfield 67, 3) := by decide +kernel
theorem dX1_widen_14 : decode cX1_widen 14 = .ok (.invokevirtual 161, 3) := by decide +kernel
theorem dX1_widen_17 : decode cX1_widen 17 = .ok (.istore 4, 2) := by decide +kernel
theorem dX1_widen_19 : decode cX1_widen 19 = .ok (.iconst 0, 1) := by decide +kernel
theorem dX1_widen_20 : decode cX1_widen 20 = .ok (.istore 5, 2) := by decide +kernel
theorem dX1_widen_22 : decode cX1_widen 22 = .ok (.iload 5, 2) := by decide +kernel
theorem dX1_widen_24 : decode cX1_widen 24 = .ok (.aload_n 0, 1) := by decide +kernel
theorem dX1_widen_25 : decode cX1_widen 25 = .ok (.getfield 9, 3) := by decide +kernel
theorem dX1_widen_28 : decode cX1_widen 28 = .ok (.invokevirtual 74, 3) := by decide +kernel
theorem dX1_widen_31 : decode cX1_widen 31 = .ok (.if_icmp .ge 180, 3) := by decide +kernel
theorem dX1_widen_34 : decode cX1_widen 34 = .ok (.iload 5, 2) := by decide +kernel
theorem dX1_widen_36 : decode cX1_widen 36 = .ok (.iconst 1, 1) := by decide +kernel
theorem dX1_widen_37 : decode cX1_widen 37 = .ok (.iadd, 1) := by decide +kernel
theorem dX1_widen_38 : decode cX1_widen 38 = .ok (.istore 6, 2) := by decide +kernel
theorem dX1_widen_40 : decode cX1_widen 40 = .ok (.iload_n 1, 1) := by decide +kernel
theorem dX1_widen_41 : decode cX1_widen 41 = .ok (.aload_n 0, 1) := by decide +kernel
theorem dX1_widen_42 : decode cX1_widen 42 = .ok (.getfield 32, 3) := by decide +kernel
theorem dX1_widen_45 : decode cX1_widen 45 = .ok (.iload_n 3, 1) := by decide +kernel
theorem dX1_widen_46 : decode cX1_widen 46 = .ok (.iload 6, 2) := by decide +kernel
theorem dX1_widen_48 : decode cX1_widen 48 = .ok (.invokevirtual 171, 3) := by decide +kernel
theorem dX1_widen_51 : decode cX1_widen 51 = .ok (.iadd, 1) := by decide +kernel
theorem dX1_widen_52 : decode cX1_widen 52 = .ok (.iload_n 2, 1) := by decide +kernel
theorem dX1_widen_53 : decode cX1_widen 53 = .ok (.aload_n 0, 1) := by decide +kernel
theorem dX1_widen_54 : decode cX1_widen 54 = .ok (.getfield 32, 3) := by decide +kernel
theorem dX1_widen_57 : decode cX1_widen 57 = .ok (.iload 4, 2) := by decide +kernel
theorem dX1_widen_59 : decode cX1_widen 59 = .ok (.iload 6, 2) := by decide +kernel
theorem dX1_widen_61 : decode cX1_widen 61 = .ok (.invokevirtual 171, 3) := by decide +kernel
theorem dX1_widen_64 : decode cX1_widen 64 = .ok (.iadd, 1) := by decide +kernel
theorem dX1_widen_65 : decode cX1_widen 65 = .ok (.invokestatic 174, 3) := by decide +kernel
theorem dX1_widen_68 : decode cX1_widen 68 = .ok (.istore 7, 2) := by decide +kernel
theorem dX1_widen_70 : decode cX1_widen 70 = .ok (.iload_n 1, 1) := by decide +kernel
theorem dX1_widen_71 : decode cX1_widen 71 = .ok (.aload_n 0, 1) := by decide +kernel
theorem dX1_widen_72 : decode cX1_widen 72 = .ok (.getfield 32, 3) := by decide +kernel
theorem dX1_widen_75 : decode cX1_widen 75 = .ok (.iload 6, 2) := by decide +kernel
theorem dX1_widen_77 : decode cX1_widen 77 = .ok (.iload_n 3, 1) := by decide +kernel
theorem dX1_widen_78 : decode cX1_widen 78 = .ok (.invokevirtual 171, 3) := by decide +kernel
theorem dX1_widen_81 : decode cX1_widen 81 = .ok (.isub, 1) := by decide +kernel
theorem dX1_widen_82 : decode cX1_widen 82 = .ok (.iload_n 2, 1) := by decide +kernel
theorem dX1_widen_83 : decode cX1_widen 83 = .ok (.aload_n 0, 1) := by decide +kernel
theorem dX1_widen_84 : decode cX1_widen 84 = .ok (.getfield 32, 3) := by decide +kernel
theorem dX1_widen_87 : decode cX1_widen 87 = .ok (.iload 6, 2) := by decide +kernel
theorem dX1_widen_89 : decode cX1_widen 89 = .ok (.iload 4, 2) := by decide +kernel
theorem dX1_widen_91 : decode cX1_widen 91 = .ok (.invokevirtual 171, 3) := by decide +kernel
theorem dX1_widen_94 : decode cX1_widen 94 = .ok (.isub, 1) := by decide +kernel
theorem dX1_widen_95 : decode cX1_widen 95 = .ok (.invokestatic 179, 3) := by decide +kernel
theorem dX1_widen_98 : decode cX1_widen 98 = .ok (.istore 8, 2) := by decide +kernel
theorem dX1_widen_100 : decode cX1_widen 100 = .ok (.iload 7, 2) := by decide +kernel
theorem dX1_widen_102 : decode cX1_widen 102 = .ok (.aload_n 0, 1) := by decide +kernel
theorem dX1_widen_103 : decode cX1_widen 103 = .ok (.getfield 32, 3) := by decide +kernel
theorem dX1_widen_106 : decode cX1_widen 106 = .ok (.iconst 0, 1) := by decide +kernel
theorem dX1_widen_107 : decode cX1_widen 107 = .ok (.iload 6, 2) := by decide +kernel
theorem dX1_widen_109 : decode cX1_widen 109 = .ok (.invokevirtual 171, 3) := by decide +kernel
theorem dX1_widen_112 : decode cX1_widen 112 = .ok (.invokestatic 174, 3) := by decide +kernel
theorem dX1_widen_115 : decode cX1_widen 115 = .ok (.istore 7, 2) := by decide +kernel
theorem dX1_widen_117 : decode cX1_widen 117 = .ok (.iload 8, 2) := by decide +kernel
theorem dX1_widen_119 : decode cX1_widen 119 = .ok (.aload_n 0, 1) := by decide +kernel
theorem dX1_widen_120 : decode cX1_widen 120 = .ok (.getfield 32, 3) := by decide +kernel
theorem dX1_widen_123 : decode cX1_widen 123 = .ok (.iload 6, 2) := by decide +kernel
theorem dX1_widen_125 : decode cX1_widen 125 = .ok (.iconst 0, 1) := by decide +kernel
theorem dX1_widen_126 : decode cX1_widen 126 = .ok (.invokevirtual 171, 3) := by decide +kernel
theorem dX1_widen_129 : decode cX1_widen 129 = .ok (.ineg, 1) := by decide +kernel
theorem dX1_widen_130 : decode cX1_widen 130 = .ok (.invokestatic 179, 3) := by decide +kernel
theorem dX1_widen_133 : decode cX1_widen 133 = .ok (.istore 8, 2) := by decide +kernel
theorem dX1_widen_135 : decode cX1_widen 135 = .ok (.aload_n 0, 1) := by decide +kernel
theorem dX1_widen_136 : decode cX1_widen 136 = .ok (.getfield 45, 3) := by decide +kernel
theorem dX1_widen_139 : decode cX1_widen 139 = .ok (.iload 5, 2) := by decide +kernel
theorem dX1_widen_141 : decode cX1_widen 141 = .ok (.aload_n 0, 1) := by decide +kernel
theorem dX1_widen_142 : decode cX1_widen 142 = .ok (.getfield 70, 3) := by decide +kernel
theorem dX1_widen_145 : decode cX1_widen 145 = .ok (.ifCond .eq 20, 3) := by decide +kernel
theorem dX1_widen_148 : decode cX1_widen 148 = .ok (.aload_n 0, 1) := by decide +kernel
theorem dX1_widen_149 : decode cX1_widen 149 = .ok (.getfield 45, 3) := by decide +kernel
theorem dX1_widen_152 : decode cX1_widen 152 = .ok (.iload 5, 2) := by decide +kernel
theorem dX1_widen_154 : decode cX1_widen 154 = .ok (.invokestatic 153, 3) := by decide +kernel
theorem dX1_widen_157 : decode cX1_widen 157 = .ok (.iload 8, 2) := by decide +kernel
theorem dX1_widen_159 : decode cX1_widen 159 = .ok (.invokestatic 174, 3) := by decide +kernel
theorem dX1_widen_162 : decode cX1_widen 162 = .ok (.goto 5, 3) := by decide +kernel
theorem dX1_widen_165 : decode cX1_widen 165 = .ok (.iload 8, 2) := by decide +kernel
theorem dX1_widen_167 : decode cX1_widen 167 = .ok (.invokestatic 114, 3) := by decide +kernel
theorem dX1_widen_170 : decode cX1_widen 170 = .ok (.aload_n 0, 1) := by decide +kernel
theorem dX1_widen_171 : decode cX1_widen 171 = .ok (.getfield 48, 3) := by decide +kernel
theorem dX1_widen_174 : decode cX1_widen 174 = .ok (.iload 5, 2) := by decide +kernel
theorem dX1_widen_176 : decode cX1_widen 176 = .ok (.aload_n 0, 1) := by decide +kernel
theorem dX1_widen_177 : decode cX1_widen 177 = .ok (.getfield 70, 3) := by decide +kernel
theorem dX1_widen_180 : decode cX1_widen 180 = .ok (.ifCond .eq 20, 3) := by decide +kernel
theorem dX1_widen_183 : decode cX1_widen 183 = .ok (.aload_n 0, 1) := by decide +kernel
theorem dX1_widen_184 : decode cX1_widen 184 = .ok (.getfield 48, 3) := by decide +kernel
theorem dX1_widen_187 : decode cX1_widen 187 = .ok (.iload 5, 2) := by decide +kernel
theorem dX1_widen_189 : decode cX1_widen 189 = .ok (.invokestatic 153, 3) := by decide +kernel
theorem dX1_widen_192 : decode cX1_widen 192 = .ok (.iload 7, 2) := by decide +kernel
theorem dX1_widen_194 : decode cX1_widen 194 = .ok (.invokestatic 179, 3) := by decide +kernel
theorem dX1_widen_197 : decode cX1_widen 197 = .ok (.goto 5, 3) := by decide +kernel
theorem dX1_widen_200 : decode cX1_widen 200 = .ok (.iload 7, 2) := by decide +kernel
theorem dX1_widen_202 : decode cX1_widen 202 = .ok (.invokestatic 114, 3) := by decide +kernel
theorem dX1_widen_205 : decode cX1_widen 205 = .ok (.iinc 5 1, 3) := by decide +kernel
theorem dX1_widen_208 : decode cX1_widen 208 = .ok (.goto (-186), 3) := by decide +kernel
theorem dX1_widen_211 : decode cX1_widen 211 = .ok (.return_, 1) := by decide +kernel
theorem dX1_yearsOf_0 : decode cX1_yearsOf 0 = .ok (.iload_n 1, 1) := by decide +kernel
theorem dX1_yearsOf_1 : decode cX1_yearsOf 1 = .ok (.iconst (-1), 1) := by decide +kernel
theorem dX1_yearsOf_2 : decode cX1_yearsOf 2 = .ok (.if_icmp .ne 7, 3) := by decide +kernel
theorem dX1_yearsOf_5 : decode cX1_yearsOf 5 = .ok (.iconst 1, 1) := by decide +kernel
theorem dX1_yearsOf_6 : decode cX1_yearsOf 6 = .ok (.goto 4, 3) := by decide +kernel
theorem dX1_yearsOf_9 : decode cX1_yearsOf 9 = .ok (.iconst 3, 1) := by decide +kernel
theorem dX1_yearsOf_10 : decode cX1_yearsOf 10 = .ok (.ireturn, 1) := by decide +kernel
theorem dX2_after_0 : decode cX2_after 0 = .ok (.aload_n 0, 1) := by decide +kernel
theorem dX2_after_1 : decode cX2_after 1 = .ok (.getfield 19, 3) := by decide +kernel
theorem dX2_after_4 : decode cX2_after 4 = .ok (.tableswitch 176 0 7 #[48, 67, 80, 99, 112, 117, 143, 158], 48) := by decide +kernel
theorem dX2_after_52 : decode cX2_after 52 = .ok (.iload_n 1, 1) := by decide +kernel
theorem dX2_after_53 : decode cX2_after 53 = .ok (.bipush 67, 2) := by decide +kernel
theorem dX2_after_55 : decode cX2_after 55 = .ok (.if_icmp .eq 9, 3) := by decide +kernel
theorem dX2_after_58 : decode cX2_after 58 = .ok (.iload_n 1, 1) := by decide +kernel
theorem dX2_after_59 : decode cX2_after 59 = .ok (.bipush 66, 2) := by decide +kernel
theorem dX2_after_61 : decode cX2_after 61 = .ok (.if_icmp .ne 7, 3) := by decide +kernel
theorem dX2_after_64 : decode cX2_after 64 = .ok (.iconst 1, 1) := by decide +kernel
theorem dX2_after_65 : decode cX2_after 65 = .ok (.goto 5, 3) := by decide +kernel
theorem dX2_after_68 : decode cX2_after 68 = .ok (.bipush 9, 2) := by decide +kernel
theorem dX2_after_70 : decode cX2_after 70 = .ok (.ireturn, 1) := by decide +kernel
theorem dX2_after_71 : decode cX2_after 71 = .ok (.iload_n 1, 1) := by decide +kernel
theorem dX2_after_72 : decode cX2_after 72 = .ok (.bipush 58, 2) := by decide +kernel
theorem dX2_after_74 : decode cX2_after 74 = .ok (.if_icmp .ne 7, 3) := by decide +kernel
theorem dX2_after_77 : decode cX2_after 77 = .ok (.iconst 2, 1) := by decide +kernel
theorem dX2_after_78 : decode cX2_after 78 = .ok (.goto 5, 3) := by decide +kernel
theorem dX2_after_81 : decode cX2_after 81 = .ok (.bipush 9, 2) := by decide +kernel
theorem dX2_after_83 : decode cX2_after 83 = .ok (.ireturn, 1) := by decide +kernel
theorem dX2_after_84 : decode cX2_after 84 = .ok (.iload_n 1, 1) := by decide +kernel
theorem dX2_after_85 : decode cX2_after 85 = .ok (.bipush 48, 2) := by decide +kernel
theorem dX2_after_87 : decode cX2_after 87 = .ok (.if_icmp .eq 9, 3) := by decide +kernel
theorem dX2_after_90 : decode cX2_after 90 = .ok (.iload_n 1, 1) := by decide +kernel
theorem dX2_after_91 : decode cX2_after 91 = .ok (.bipush 49, 2) := by decide +kernel
theorem dX2_after_93 : decode cX2_after 93 = .ok (.if_icmp .ne 7, 3) := by decide +kernel
theorem dX2_after_96 : decode cX2_after 96 = .ok (.iconst 3, 1) := by decide +kernel
theorem dX2_after_97 : decode cX2_after 97 = .ok (.goto 5, 3) := by decide +kernel
theorem dX2_after_100 : decode cX2_after 100 = .ok (.bipush 9, 2) := by decide +kernel
theorem dX2_after_102 : decode cX2_after 102 = .ok (.ireturn, 1) := by decide +kernel
theorem dX2_after_103 : decode cX2_after 103 = .ok (.iload_n 1, 1) := by decide +kernel
theorem dX2_after_104 : decode cX2_after 104 = .ok (.bipush 63, 2) := by decide +kernel
theorem dX2_after_106 : decode cX2_after 106 = .ok (.if_icmp .ne 7, 3) := by decide +kernel
theorem dX2_after_109 : decode cX2_after 109 = .ok (.iconst 4, 1) := by decide +kernel
theorem dX2_after_110 : decode cX2_after 110 = .ok (.goto 5, 3) := by decide +kernel
theorem dX2_after_113 : decode cX2_after 113 = .ok (.bipush 9, 2) := by decide +kernel
theorem dX2_after_115 : decode cX2_after 115 = .ok (.ireturn, 1) := by decide +kernel
theorem dX2_after_116 : decode cX2_after 116 = .ok (.iload_n 1, 1) := by decide +kernel
theorem dX2_after_117 : decode cX2_after 117 = .ok (.invokestatic 50, 3) := by decide +kernel
theorem dX2_after_120 : decode cX2_after 120 = .ok (.ireturn, 1) := by decide +kernel
theorem dX2_after_121 : decode cX2_after 121 = .ok (.iload_n 1, 1) := by decide +kernel
theorem dX2_after_122 : decode cX2_after 122 = .ok (.bipush 60, 2) := by decide +kernel
theorem dX2_after_124 : decode cX2_after 124 = .ok (.if_icmp .eq 15, 3) := by decide +kernel
theorem dX2_after_127 : decode cX2_after 127 = .ok (.iload_n 1, 1) := by decide +kernel
theorem dX2_after_128 : decode cX2_after 128 = .ok (.bipush 61, 2) := by decide +kernel
theorem dX2_after_130 : decode cX2_after 130 = .ok (.if_icmp .eq 9, 3) := by decide +kernel
theorem dX2_after_133 : decode cX2_after 133 = .ok (.iload_n 1, 1) := by decide +kernel
theorem dX2_after_134 : decode cX2_after 134 = .ok (.bipush 62, 2) := by decide +kernel
theorem dX2_after_136 : decode cX2_after 136 = .ok (.if_icmp .ne 8, 3) := by decide +kernel
theorem dX2_after_139 : decode cX2_after 139 = .ok (.bipush 6, 2) := by decide +kernel
theorem dX2_after_141 : decode cX2_after 141 = .ok (.goto 5, 3) := by decide +kernel
theorem dX2_after_144 : decode cX2_after 144 = .ok (.bipush 9, 2) := by decide +kernel
theorem dX2_after_146 : decode cX2_after 146 = .ok (.ireturn, 1) := by decide +kernel
theorem dX2_after_147 : decode cX2_after 147 = .ok (.iload_n 1, 1) := by decide +kernel
theorem dX2_after_148 : decode cX2_after 148 = .ok (.invokestatic 53, 3) := by decide +kernel
theorem dX2_after_151 : decode cX2_after 151 = .ok (.ifCond .eq 8, 3) := by decide +kernel
theorem dX2_after_154 : decode cX2_after 154 = .ok (.bipush 7, 2) := by decide +kernel
theorem dX2_after_156 : decode cX2_after 156 = .ok (.goto 5, 3) := by decide +kernel
theorem dX2_after_159 : decode cX2_after 159 = .ok (.bipush 9, 2) := by decide +kernel
theorem dX2_after_161 : decode cX2_after 161 = .ok (.ireturn, 1) := by decide +kernel
theorem dX2_after_162 : decode cX2_after 162 = .ok (.iload_n 1, 1) := by decide +kernel
theorem dX2_after_163 : decode cX2_after 163 = .ok (.invokestatic 53, 3) := by decide +kernel
theorem dX2_after_166 : decode cX2_after 166 = .ok (.ifCond .eq 8, 3) := by decide +kernel
theorem dX2_after_169 : decode cX2_after 169 = .ok (.bipush 8, 2) := by decide +kernel
theorem dX2_after_171 : decode cX2_after 171 = .ok (.goto 8, 3) := by decide +kernel
theorem dX2_after_174 : decode cX2_after 174 = .ok (.aload_n 0, 1) := by decide +kernel
theorem dX2_after_175 : decode cX2_after 175 = .ok (.iload_n 1, 1) := by decide +kernel
theorem dX2_after_176 : decode cX2_after 176 = .ok (.invokevirtual 57, 3) := by decide +kernel
theorem dX2_after_179 : decode cX2_after 179 = .ok (.ireturn, 1) := by decide +kernel
theorem dX2_after_180 : decode cX2_after 180 = .ok (.aload_n 0, 1) := by decide +kernel
theorem dX2_after_181 : decode cX2_after 181 = .ok (.iload_n 1, 1) := by decide +kernel
theorem dX2_after_182 : decode cX2_after 182 = .ok (.invokevirtual 57, 3) := by decide +kernel
theorem dX2_after_185 : decode cX2_after 185 = .ok (.ireturn, 1) := by decide +kernel
theorem dX2_afterFactorBegins_0 : decode cX2_afterFactorBegins 0 = .ok (.iload_n 0, 1) := by decide +kernel
theorem dX2_afterFactorBegins_1 : decode cX2_afterFactorBegins 1 = .ok (.lookupswitch 63 #[(33, 59), (40, 59), (107, 61), (108, 61), (110, 61), (114, 61)], 59) := by decide +kernel
theorem dX2_afterFactorBegins_60 : decode cX2_afterFactorBegins 60 = .ok (.iconst 4, 1) := by decide +kernel
theorem dX2_afterFactorBegins_61 : decode cX2_afterFactorBegins 61 = .ok (.ireturn, 1) := by decide +kernel
theorem dX2_afterFactorBegins_62 : decode cX2_afterFactorBegins 62 = .ok (.iconst 5, 1) := by decide +kernel
theorem dX2_afterFactorBegins_63 : decode cX2_afterFactorBegins 63 = .ok (.ireturn, 1) := by decide +kernel
theorem dX2_afterFactorBegins_64 : decode cX2_afterFactorBegins 64 = .ok (.bipush 9, 2) := by decide +kernel
theorem dX2_afterFactorBegins_66 : decode cX2_afterFactorBegins 66 = .ok (.ireturn, 1) := by decide +kernel
theorem dX2_afterFactorEnds_0 : decode cX2_afterFactorEnds 0 = .ok (.iload_n 1, 1) := by decide +kernel
theorem dX2_afterFactorEnds_1 : decode cX2_afterFactorEnds 1 = .ok (.bipush 41, 2) := by decide +kernel
theorem dX2_afterFactorEnds_3 : decode cX2_afterFactorEnds 3 = .ok (.if_icmp .ne 18, 3) := by decide +kernel
theorem dX2_afterFactorEnds_6 : decode cX2_afterFactorEnds 6 = .ok (.aload_n 0, 1) := by decide +kernel
theorem dX2_afterFactorEnds_7 : decode cX2_afterFactorEnds 7 = .ok (.getfield 22, 3) := by decide +kernel
theorem dX2_afterFactorEnds_10 : decode cX2_afterFactorEnds 10 = .ok (.ifCond .le 8, 3) := by decide +kernel
theorem dX2_afterFactorEnds_13 : decode cX2_afterFactorEnds 13 = .ok (.bipush 8, 2) := by decide +kernel
theorem dX2_afterFactorEnds_15 : decode cX2_afterFactorEnds 15 = .ok (.goto 5, 3) := by decide +kernel
theorem dX2_afterFactorEnds_18 : decode cX2_afterFactorEnds 18 = .ok (.bipush 9, 2) := by decide +kernel
theorem dX2_afterFactorEnds_20 : decode cX2_afterFactorEnds 20 = .ok (.ireturn, 1) := by decide +kernel
theorem dX2_afterFactorEnds_21 : decode cX2_afterFactorEnds 21 = .ok (.iload_n 1, 1) := by decide +kernel
theorem dX2_afterFactorEnds_22 : decode cX2_afterFactorEnds 22 = .ok (.bipush 124, 2) := by decide +kernel
theorem dX2_afterFactorEnds_24 : decode cX2_afterFactorEnds 24 = .ok (.if_icmp .eq 9, 3) := by decide +kernel
theorem dX2_afterFactorEnds_27 : decode cX2_afterFactorEnds 27 = .ok (.iload_n 1, 1) := by decide +kernel
theorem dX2_afterFactorEnds_28 : decode cX2_afterFactorEnds 28 = .ok (.bipush 38, 2) := by decide +kernel
theorem dX2_afterFactorEnds_30 : decode cX2_afterFactorEnds 30 = .ok (.if_icmp .ne 7, 3) := by decide +kernel
theorem dX2_afterFactorEnds_33 : decode cX2_afterFactorEnds 33 = .ok (.iconst 4, 1) := by decide +kernel
theorem dX2_afterFactorEnds_34 : decode cX2_afterFactorEnds 34 = .ok (.goto 5, 3) := by decide +kernel
theorem dX2_afterFactorEnds_37 : decode cX2_afterFactorEnds 37 = .ok (.bipush 9, 2) := by decide +kernel
theorem dX2_afterFactorEnds_39 : decode cX2_afterFactorEnds 39 = .ok (.ireturn, 1) := by decide +kernel
theorem dX2_byteOf_0 : decode cX2_byteOf 0 = .ok (.lload_n 0, 1) := by decide +kernel
theorem dX2_byteOf_1 : decode cX2_byteOf 1 = .ok (.bipush 8, 2) := by decide +kernel
theorem dX2_byteOf_3 : decode cX2_byteOf 3 = .ok (.iload_n 2, 1) := by decide +kernel
theorem dX2_byteOf_4 : decode cX2_byteOf 4 = .ok (.imul, 1) := by decide +kernel
theorem dX2_byteOf_5 : decode cX2_byteOf 5 = .ok (.lushr, 1) := by decide +kernel
theorem dX2_byteOf_6 : decode cX2_byteOf 6 = .ok (.ldc2_w 29, 3) := by decide +kernel
theorem dX2_byteOf_9 : decode cX2_byteOf 9 = .ok (.land, 1) := by decide +kernel
theorem dX2_byteOf_10 : decode cX2_byteOf 10 = .ok (.l2i, 1) := by decide +kernel
theorem dX2_byteOf_11 : decode cX2_byteOf 11 = .ok (.ireturn, 1) := by decide +kernel
theorem dX2_digestOn_0 : decode cX2_digestOn 0 = .ok (.lload_n 1, 1) := by decide +kernel
theorem dX2_digestOn_1 : decode cX2_digestOn 1 = .ok (.lstore_n 3, 1) := by decide +kernel
theorem dX2_digestOn_2 : decode cX2_digestOn 2 = .ok (.iconst 0, 1) := by decide +kernel
theorem dX2_digestOn_3 : decode cX2_digestOn 3 = .ok (.istore 5, 2) := by decide +kernel
theorem dX2_digestOn_5 : decode cX2_digestOn 5 = .ok (.iload 5, 2) := by decide +kernel
theorem dX2_digestOn_7 : decode cX2_digestOn 7 = .ok (.aload_n 0, 1) := by decide +kernel
theorem dX2_digestOn_8 : decode cX2_digestOn 8 = .ok (.getfield 15, 3) := by decide +kernel
theorem dX2_digestOn_11 : decode cX2_digestOn 11 = .ok (.if_icmp .ge 23, 3) := by decide +kernel
theorem dX2_digestOn_14 : decode cX2_digestOn 14 = .ok (.ldc2_w 60, 3) := by decide +kernel
theorem dX2_digestOn_17 : decode cX2_digestOn 17 = .ok (.lload_n 3, 1) := by decide +kernel
theorem dX2_digestOn_18 : decode cX2_digestOn 18 = .ok (.lmul, 1) := by decide +kernel
theorem dX2_digestOn_19 : decode cX2_digestOn 19 = .ok (.aload_n 0, 1) := by decide +kernel
theorem dX2_digestOn_20 : decode cX2_digestOn 20 = .ok (.iload 5, 2) := by decide +kernel
theorem dX2_digestOn_22 : decode cX2_digestOn 22 = .ok (.invokevirtual 39, 3) := by decide +kernel
theorem dX2_digestOn_25 : decode cX2_digestOn 25 = .ok (.i2l, 1) := by decide +kernel
theorem dX2_digestOn_26 : decode cX2_digestOn 26 = .ok (.ladd, 1) := by decide +kernel
theorem dX2_digestOn_27 : decode cX2_digestOn 27 = .ok (.lstore_n 3, 1) := by decide +kernel
theorem dX2_digestOn_28 : decode cX2_digestOn 28 = .ok (.iinc 5 1, 3) := by decide +kernel
theorem dX2_digestOn_31 : decode cX2_digestOn 31 = .ok (.goto (-26), 3) := by decide +kernel
theorem dX2_digestOn_34 : decode cX2_digestOn 34 = .ok (.lload_n 3, 1) := by decide +kernel
theorem dX2_digestOn_35 : decode cX2_digestOn 35 = .ok (.lreturn, 1) := by decide +kernel
theorem dX2_firstFault_0 : decode cX2_firstFault 0 = .ok (.aload_n 0, 1) := by decide +kernel
theorem dX2_firstFault_1 : decode cX2_firstFault 1 = .ok (.iconst 0, 1) := by decide +kernel
theorem dX2_firstFault_2 : decode cX2_firstFault 2 = .ok (.putfield 19, 3) := by decide +kernel
theorem dX2_firstFault_5 : decode cX2_firstFault 5 = .ok (.aload_n 0, 1) := by decide +kernel
theorem dX2_firstFault_6 : decode cX2_firstFault 6 = .ok (.iconst 0, 1) := by decide +kernel
theorem dX2_firstFault_7 : decode cX2_firstFault 7 = .ok (.putfield 22, 3) := by decide +kernel
theorem dX2_firstFault_10 : decode cX2_firstFault 10 = .ok (.iconst 0, 1) := by decide +kernel
theorem dX2_firstFault_11 : decode cX2_firstFault 11 = .ok (.istore_n 1, 1) := by decide +kernel
theorem dX2_firstFault_12 : decode cX2_firstFault 12 = .ok (.iload_n 1, 1) := by decide +kernel
theorem dX2_firstFault_13 : decode cX2_firstFault 13 = .ok (.aload_n 0, 1) := by decide +kernel
theorem dX2_firstFault_14 : decode cX2_firstFault 14 = .ok (.getfield 15, 3) := by decide +kernel
theorem dX2_firstFault_17 : decode cX2_firstFault 17 = .ok (.if_icmp .ge 65, 3) := by decide +kernel
theorem dX2_firstFault_20 : decode cX2_firstFault 20 = .ok (.aload_n 0, 1) := by decide +kernel
theorem dX2_firstFault_21 : decode cX2_firstFault 21 = .ok (.iload_n 1, 1) := by decide +kernel
theorem dX2_firstFault_22 : decode cX2_firstFault 22 = .ok (.invokevirtual 39, 3) := by decide +kernel
theorem dX2_firstFault_25 : decode cX2_firstFault 25 = .ok (.istore_n 2, 1) := by decide +kernel
theorem dX2_firstFault_26 : decode cX2_firstFault 26 = .ok (.aload_n 0, 1) := by decide +kernel
theorem dX2_firstFault_27 : decode cX2_firstFault 27 = .ok (.aload_n 0, 1) := by decide +kernel
theorem dX2_firstFault_28 : decode cX2_firstFault 28 = .ok (.iload_n 2, 1) := by decide +kernel
theorem dX2_firstFault_29 : decode cX2_firstFault 29 = .ok (.invokevirtual 43, 3) := by decide +kernel
theorem dX2_firstFault_32 : decode cX2_firstFault 32 = .ok (.putfield 19, 3) := by decide +kernel
theorem dX2_firstFault_35 : decode cX2_firstFault 35 = .ok (.aload_n 0, 1) := by decide +kernel
theorem dX2_firstFault_36 : decode cX2_firstFault 36 = .ok (.getfield 19, 3) := by decide +kernel
theorem dX2_firstFault_39 : decode cX2_firstFault 39 = .ok (.bipush 9, 2) := by decide +kernel
theorem dX2_firstFault_41 : decode cX2_firstFault 41 = .ok (.if_icmp .ne 5, 3) := by decide +kernel
theorem dX2_firstFault_44 : decode cX2_firstFault 44 = .ok (.iload_n 1, 1) := by decide +kernel
theorem dX2_firstFault_45 : decode cX2_firstFault 45 = .ok (.ireturn, 1) := by decide +kernel
theorem dX2_firstFault_46 : decode cX2_firstFault 46 = .ok (.aload_n 0, 1) := by decide +kernel
theorem dX2_firstFault_47 : decode cX2_firstFault 47 = .ok (.dup, 1) := by decide +kernel
theorem dX2_firstFault_48 : decode cX2_firstFault 48 = .ok (.getfield 22, 3) := by decide +kernel
theorem dX2_firstFault_51 : decode cX2_firstFault 51 = .ok (.iload_n 2, 1) := by decide +kernel
theorem dX2_firstFault_52 : decode cX2_firstFault 52 = .ok (.bipush 40, 2) := by decide +kernel
theorem dX2_firstFault_54 : decode cX2_firstFault 54 = .ok (.if_icmp .ne 7, 3) := by decide +kernel
theorem dX2_firstFault_57 : decode cX2_firstFault 57 = .ok (.iconst 1, 1) := by decide +kernel
theorem dX2_firstFault_58 : decode cX2_firstFault 58 = .ok (.goto 14, 3) := by decide +kernel
theorem dX2_firstFault_61 : decode cX2_firstFault 61 = .ok (.iload_n 2, 1) := by decide +kernel
theorem dX2_firstFault_62 : decode cX2_firstFault 62 = .ok (.bipush 41, 2) := by decide +kernel
theorem dX2_firstFault_64 : decode cX2_firstFault 64 = .ok (.if_icmp .ne 7, 3) := by decide +kernel
theorem dX2_firstFault_67 : decode cX2_firstFault 67 = .ok (.iconst (-1), 1) := by decide +kernel
theorem dX2_firstFault_68 : decode cX2_firstFault 68 = .ok (.goto 4, 3) := by decide +kernel
theorem dX2_firstFault_71 : decode cX2_firstFault 71 = .ok (.iconst 0, 1) := by decide +kernel
theorem dX2_firstFault_72 : decode cX2_firstFault 72 = .ok (.iadd, 1) := by decide +kernel
theorem dX2_firstFault_73 : decode cX2_firstFault 73 = .ok (.putfield 22, 3) := by decide +kernel
theorem dX2_firstFault_76 : decode cX2_firstFault 76 = .ok (.iinc 1 1, 3) := by decide +kernel
theorem dX2_firstFault_79 : decode cX2_firstFault 79 = .ok (.goto (-67), 3) := by decide +kernel
theorem dX2_firstFault_82 : decode cX2_firstFault 82 = .ok (.aload_n 0, 1) := by decide +kernel
theorem dX2_firstFault_83 : decode cX2_firstFault 83 = .ok (.getfield 15, 3) := by decide +kernel
theorem dX2_firstFault_86 : decode cX2_firstFault 86 = .ok (.ireturn, 1) := by decide +kernel
theorem dX2_init_0 : decode cX2_init 0 = .ok (.aload_n 0, 1) := by decide +kernel
theorem dX2_init_1 : decode cX2_init 1 = .ok (.invokespecial 3, 3) := by decide +kernel
theorem dX2_init_4 : decode cX2_init 4 = .ok (.aload_n 0, 1) := by decide +kernel
theorem dX2_init_5 : decode cX2_init 5 = .ok (.bipush 60, 2) := by decide +kernel
theorem dX2_init_7 : decode cX2_init 7 = .ok (.newarray .int, 2) := by decide +kernel
theorem dX2_init_9 : decode cX2_init 9 = .ok (.putfield 9, 3) := by decide +kernel
theorem dX2_init_12 : decode cX2_init 12 = .ok (.aload_n 0, 1) := by decide +kernel
theorem dX2_init_13 : decode cX2_init 13 = .ok (.iconst 0, 1) := by decide +kernel
theorem dX2_init_14 : decode cX2_init 14 = .ok (.putfield 15, 3) := by decide +kernel
theorem dX2_init_17 : decode cX2_init 17 = .ok (.aload_n 0, 1) := by decide +kernel
theorem dX2_init_18 : decode cX2_init 18 = .ok (.iconst 0, 1) := by decide +kernel
theorem dX2_init_19 : decode cX2_init 19 = .ok (.putfield 19, 3) := by decide +kernel
theorem dX2_init_22 : decode cX2_init 22 = .ok (.aload_n 0, 1) := by decide +kernel
theorem dX2_init_23 : decode cX2_init 23 = .ok (.iconst 0, 1) := by decide +kernel
theorem dX2_init_24 : decode cX2_init 24 = .ok (.putfield 22, 3) := by decide +kernel
theorem dX2_init_27 : decode cX2_init 27 = .ok (.return_, 1) := by decide +kernel
theorem dX2_isDigit_0 : decode cX2_isDigit 0 = .ok (.iload_n 0, 1) := by decide +kernel
theorem dX2_isDigit_1 : decode cX2_isDigit 1 = .ok (.bipush 48, 2) := by decide +kernel
theorem dX2_isDigit_3 : decode cX2_isDigit 3 = .ok (.if_icmp .lt 13, 3) := by decide +kernel
theorem dX2_isDigit_6 : decode cX2_isDigit 6 = .ok (.iload_n 0, 1) := by decide +kernel
theorem dX2_isDigit_7 : decode cX2_isDigit 7 = .ok (.bipush 57, 2) := by decide +kernel
theorem dX2_isDigit_9 : decode cX2_isDigit 9 = .ok (.if_icmp .gt 7, 3) := by decide +kernel
theorem dX2_isDigit_12 : decode cX2_isDigit 12 = .ok (.iconst 1, 1) := by decide +kernel
theorem dX2_isDigit_13 : decode cX2_isDigit 13 = .ok (.goto 4, 3) := by decide +kernel
theorem dX2_isDigit_16 : decode cX2_isDigit 16 = .ok (.iconst 0, 1) := by decide +kernel
theorem dX2_isDigit_17 : decode cX2_isDigit 17 = .ok (.ireturn, 1) := by decide +kernel
theorem dX2_isText_0 : decode cX2_isText 0 = .ok (.aload_n 0, 1) := by decide +kernel
theorem dX2_isText_1 : decode cX2_isText 1 = .ok (.invokevirtual 46, 3) := by decide +kernel
theorem dX2_isText_4 : decode cX2_isText 4 = .ok (.aload_n 0, 1) := by decide +kernel
theorem dX2_isText_5 : decode cX2_isText 5 = .ok (.getfield 15, 3) := by decide +kernel
theorem dX2_isText_8 : decode cX2_isText 8 = .ok (.if_icmp .lt 10, 3) := by decide +kernel
theorem dX2_isText_11 : decode cX2_isText 11 = .ok (.aload_n 0, 1) := by decide +kernel
theorem dX2_isText_12 : decode cX2_isText 12 = .ok (.getfield 22, 3) := by decide +kernel
theorem dX2_isText_15 : decode cX2_isText 15 = .ok (.ifCond .le 5, 3) := by decide +kernel
theorem dX2_isText_18 : decode cX2_isText 18 = .ok (.iconst 0, 1) := by decide +kernel
theorem dX2_isText_19 : decode cX2_isText 19 = .ok (.ireturn, 1) := by decide +kernel
theorem dX2_isText_20 : decode cX2_isText 20 = .ok (.aload_n 0, 1) := by decide +kernel
theorem dX2_isText_21 : decode cX2_isText 21 = .ok (.getfield 19, 3) := by decide +kernel
theorem dX2_isText_24 : decode cX2_isText 24 = .ok (.iconst 3, 1) := by decide +kernel
theorem dX2_isText_25 : decode cX2_isText 25 = .ok (.if_icmp .eq 21, 3) := by decide +kernel
theorem dX2_isText_28 : decode cX2_isText 28 = .ok (.aload_n 0, 1) := by decide +kernel
theorem dX2_isText_29 : decode cX2_isText 29 = .ok (.getfield 19, 3) := by decide +kernel
theorem dX2_isText_32 : decode cX2_isText 32 = .ok (.bipush 7, 2) := by decide +kernel
theorem dX2_isText_34 : decode cX2_isText 34 = .ok (.if_icmp .eq 12, 3) := by decide +kernel
theorem dX2_isText_37 : decode cX2_isText 37 = .ok (.aload_n 0, 1) := by decide +kernel
theorem dX2_isText_38 : decode cX2_isText 38 = .ok (.getfield 19, 3) := by decide +kernel
theorem dX2_isText_41 : decode cX2_isText 41 = .ok (.bipush 8, 2) := by decide +kernel
theorem dX2_isText_43 : decode cX2_isText 43 = .ok (.if_icmp .ne 7, 3) := by decide +kernel
theorem dX2_isText_46 : decode cX2_isText 46 = .ok (.iconst 1, 1) := by decide +kernel
theorem dX2_isText_47 : decode cX2_isText 47 = .ok (.goto 4, 3) := by decide +kernel
theorem dX2_isText_50 : decode cX2_isText 50 = .ok (.iconst 0, 1) := by decide +kernel
theorem dX2_isText_51 : decode cX2_isText 51 = .ok (.ireturn, 1) := by decide +kernel
theorem dX2_letterAt_0 : decode cX2_letterAt 0 = .ok (.aload_n 0, 1) := by decide +kernel
theorem dX2_letterAt_1 : decode cX2_letterAt 1 = .ok (.getfield 9, 3) := by decide +kernel
theorem dX2_letterAt_4 : decode cX2_letterAt 4 = .ok (.iload_n 1, 1) := by decide +kernel
theorem dX2_letterAt_5 : decode cX2_letterAt 5 = .ok (.invokestatic 25, 3) := by decide +kernel
theorem dX2_letterAt_8 : decode cX2_letterAt 8 = .ok (.ireturn, 1) := by decide +kernel
theorem dX2_lettersIn_0 : decode cX2_lettersIn 0 = .ok (.iconst 0, 1) := by decide +kernel
theorem dX2_lettersIn_1 : decode cX2_lettersIn 1 = .ok (.istore_n 2, 1) := by decide +kernel
theorem dX2_lettersIn_2 : decode cX2_lettersIn 2 = .ok (.iconst 0, 1) := by decide +kernel
theorem dX2_lettersIn_3 : decode cX2_lettersIn 3 = .ok (.istore_n 3, 1) := by decide +kernel
theorem dX2_lettersIn_4 : decode cX2_lettersIn 4 = .ok (.iload_n 3, 1) := by decide +kernel
theorem dX2_lettersIn_5 : decode cX2_lettersIn 5 = .ok (.bipush 8, 2) := by decide +kernel
theorem dX2_lettersIn_7 : decode cX2_lettersIn 7 = .ok (.if_icmp .ge 49, 3) := by decide +kernel
theorem dX2_lettersIn_10 : decode cX2_lettersIn 10 = .ok (.lload_n 0, 1) := by decide +kernel
theorem dX2_lettersIn_11 : decode cX2_lettersIn 11 = .ok (.iload_n 3, 1) := by decide +kernel
theorem dX2_lettersIn_12 : decode cX2_lettersIn 12 = .ok (.invokestatic 31, 3) := by decide +kernel
theorem dX2_lettersIn_15 : decode cX2_lettersIn 15 = .ok (.istore 4, 2) := by decide +kernel
theorem dX2_lettersIn_17 : decode cX2_lettersIn 17 = .ok (.iload 4, 2) := by decide +kernel
theorem dX2_lettersIn_19 : decode cX2_lettersIn 19 = .ok (.bipush 126, 2) := by decide +kernel
theorem dX2_lettersIn_21 : decode cX2_lettersIn 21 = .ok (.if_icmp .gt 13, 3) := by decide +kernel
theorem dX2_lettersIn_24 : decode cX2_lettersIn 24 = .ok (.iload 4, 2) := by decide +kernel
theorem dX2_lettersIn_26 : decode cX2_lettersIn 26 = .ok (.ifCond .eq 11, 3) := by decide +kernel
theorem dX2_lettersIn_29 : decode cX2_lettersIn 29 = .ok (.iload_n 2, 1) := by decide +kernel
theorem dX2_lettersIn_30 : decode cX2_lettersIn 30 = .ok (.iload_n 3, 1) := by decide +kernel
theorem dX2_lettersIn_31 : decode cX2_lettersIn 31 = .ok (.if_icmp .ge 6, 3) := by decide +kernel
theorem dX2_lettersIn_34 : decode cX2_lettersIn 34 = .ok (.bipush (-102), 2) := by decide +kernel
theorem dX2_lettersIn_36 : decode cX2_lettersIn 36 = .ok (.ireturn, 1) := by decide +kernel
theorem dX2_lettersIn_37 : decode cX2_lettersIn 37 = .ok (.iload_n 2, 1) := by decide +kernel
theorem dX2_lettersIn_38 : decode cX2_lettersIn 38 = .ok (.iload 4, 2) := by decide +kernel
theorem dX2_lettersIn_40 : decode cX2_lettersIn 40 = .ok (.ifCond .eq 7, 3) := by decide +kernel
theorem dX2_lettersIn_43 : decode cX2_lettersIn 43 = .ok (.iconst 1, 1) := by decide +kernel
theorem dX2_lettersIn_44 : decode cX2_lettersIn 44 = .ok (.goto 4, 3) := by decide +kernel
theorem dX2_lettersIn_47 : decode cX2_lettersIn 47 = .ok (.iconst 0, 1) := by decide +kernel
theorem dX2_lettersIn_48 : decode cX2_lettersIn 48 = .ok (.iadd, 1) := by decide +kernel
theorem dX2_lettersIn_49 : decode cX2_lettersIn 49 = .ok (.istore_n 2, 1) := by decide +kernel
theorem dX2_lettersIn_50 : decode cX2_lettersIn 50 = .ok (.iinc 3 1, 3) := by decide +kernel
theorem dX2_lettersIn_53 : decode cX2_lettersIn 53 = .ok (.goto (-49), 3) := by decide +kernel
theorem dX2_lettersIn_56 : decode cX2_lettersIn 56 = .ok (.iload_n 2, 1) := by decide +kernel
theorem dX2_lettersIn_57 : decode cX2_lettersIn 57 = .ok (.ireturn, 1) := by decide +kernel
theorem dX2_size_0 : decode cX2_size 0 = .ok (.aload_n 0, 1) := by decide +kernel
theorem dX2_size_1 : decode cX2_size 1 = .ok (.getfield 15, 3) := by decide +kernel
theorem dX2_size_4 : decode cX2_size 4 = .ok (.ireturn, 1) := by decide +kernel
theorem dX2_wipe_0 : decode cX2_wipe 0 = .ok (.aload_n 0, 1) := by decide +kernel
theorem dX2_wipe_1 : decode cX2_wipe 1 = .ok (.getfield 15, 3) := by decide +kernel
theorem dX2_wipe_4 : decode cX2_wipe 4 = .ok (.istore_n 1, 1) := by decide +kernel
theorem dX2_wipe_5 : decode cX2_wipe 5 = .ok (.aload_n 0, 1) := by decide +kernel
theorem dX2_wipe_6 : decode cX2_wipe 6 = .ok (.iconst 0, 1) := by decide +kernel
theorem dX2_wipe_7 : decode cX2_wipe 7 = .ok (.putfield 15, 3) := by decide +kernel
theorem dX2_wipe_10 : decode cX2_wipe 10 = .ok (.iload_n 1, 1) := by decide +kernel
theorem dX2_wipe_11 : decode cX2_wipe 11 = .ok (.ireturn, 1) := by decide +kernel
theorem dX2_write_0 : decode cX2_write 0 = .ok (.iconst 0, 1) := by decide +kernel
theorem dX2_write_1 : decode cX2_write 1 = .ok (.istore 4, 2) := by decide +kernel
theorem dX2_write_3 : decode cX2_write 3 = .ok (.iload 4, 2) := by decide +kernel
theorem dX2_write_5 : decode cX2_write 5 = .ok (.iload_n 3, 1) := by decide +kernel
theorem dX2_write_6 : decode cX2_write 6 = .ok (.if_icmp .ge 29, 3) := by decide +kernel
theorem dX2_write_9 : decode cX2_write 9 = .ok (.aload_n 0, 1) := by decide +kernel
theorem dX2_write_10 : decode cX2_write 10 = .ok (.getfield 9, 3) := by decide +kernel
theorem dX2_write_13 : decode cX2_write 13 = .ok (.aload_n 0, 1) := by decide +kernel
theorem dX2_write_14 : decode cX2_write 14 = .ok (.getfield 15, 3) := by decide +kernel
theorem dX2_write_17 : decode cX2_write 17 = .ok (.iload 4, 2) := by decide +kernel
theorem dX2_write_19 : decode cX2_write 19 = .ok (.iadd, 1) := by decide +kernel
theorem dX2_write_20 : decode cX2_write 20 = .ok (.lload_n 1, 1) := by decide +kernel
theorem dX2_write_21 : decode cX2_write 21 = .ok (.iload 4, 2) := by decide +kernel
theorem dX2_write_23 : decode cX2_write 23 = .ok (.invokestatic 31, 3) := by decide +kernel
theorem dX2_write_26 : decode cX2_write 26 = .ok (.invokestatic 35, 3) := by decide +kernel
theorem dX2_write_29 : decode cX2_write 29 = .ok (.iinc 4 1, 3) := by decide +kernel
theorem dX2_write_32 : decode cX2_write 32 = .ok (.goto (-29), 3) := by decide +kernel
theorem dX2_write_35 : decode cX2_write 35 = .ok (.aload_n 0, 1) := by decide +kernel
theorem dX2_write_36 : decode cX2_write 36 = .ok (.dup, 1) := by decide +kernel
theorem dX2_write_37 : decode cX2_write 37 = .ok (.getfield 15, 3) := by decide +kernel
theorem dX2_write_40 : decode cX2_write 40 = .ok (.iload_n 3, 1) := by decide +kernel
theorem dX2_write_41 : decode cX2_write 41 = .ok (.iadd, 1) := by decide +kernel
theorem dX2_write_42 : decode cX2_write 42 = .ok (.putfield 15, 3) := by decide +kernel
theorem dX2_write_45 : decode cX2_write 45 = .ok (.aload_n 0, 1) := by decide +kernel
theorem dX2_write_46 : decode cX2_write 46 = .ok (.getfield 15, 3) := by decide +kernel
theorem dX2_write_49 : decode cX2_write 49 = .ok (.ireturn, 1) := by decide +kernel
theorem dX3_add_0 : decode cX3_add 0 = .ok (.aload_n 0, 1) := by decide +kernel
theorem dX3_add_1 : decode cX3_add 1 = .ok (.getfield 21, 3) := by decide +kernel
theorem dX3_add_4 : decode cX3_add 4 = .ok (.bipush 6, 2) := by decide +kernel
theorem dX3_add_6 : decode cX3_add 6 = .ok (.imul, 1) := by decide +kernel
theorem dX3_add_7 : decode cX3_add 7 = .ok (.istore 6, 2) := by decide +kernel
theorem dX3_add_9 : decode cX3_add 9 = .ok (.aload_n 0, 1) := by decide +kernel
theorem dX3_add_10 : decode cX3_add 10 = .ok (.getfield 11, 3) := by decide +kernel
theorem dX3_add_13 : decode cX3_add 13 = .ok (.iload 6, 2) := by decide +kernel
theorem dX3_add_15 : decode cX3_add 15 = .ok (.iconst 0, 1) := by decide +kernel
theorem dX3_add_16 : decode cX3_add 16 = .ok (.iadd, 1) := by decide +kernel
theorem dX3_add_17 : decode cX3_add 17 = .ok (.iload_n 1, 1) := by decide +kernel
theorem dX3_add_18 : decode cX3_add 18 = .ok (.invokestatic 36, 3) := by decide +kernel
theorem dX3_add_21 : decode cX3_add 21 = .ok (.aload_n 0, 1) := by decide +kernel
theorem dX3_add_22 : decode cX3_add 22 = .ok (.getfield 11, 3) := by decide +kernel
theorem dX3_add_25 : decode cX3_add 25 = .ok (.iload 6, 2) := by decide +kernel
theorem dX3_add_27 : decode cX3_add 27 = .ok (.iconst 1, 1) := by decide +kernel
theorem dX3_add_28 : decode cX3_add 28 = .ok (.iadd, 1) := by decide +kernel
theorem dX3_add_29 : decode cX3_add 29 = .ok (.iload_n 2, 1) := by decide +kernel
theorem dX3_add_30 : decode cX3_add 30 = .ok (.invokestatic 36, 3) := by decide +kernel
theorem dX3_add_33 : decode cX3_add 33 = .ok (.aload_n 0, 1) := by decide +kernel
theorem dX3_add_34 : decode cX3_add 34 = .ok (.getfield 11, 3) := by decide +kernel
theorem dX3_add_37 : decode cX3_add 37 = .ok (.iload 6, 2) := by decide +kernel
theorem dX3_add_39 : decode cX3_add 39 = .ok (.iconst 2, 1) := by decide +kernel
theorem dX3_add_40 : decode cX3_add 40 = .ok (.iadd, 1) := by decide +kernel
theorem dX3_add_41 : decode cX3_add 41 = .ok (.iload_n 3, 1) := by decide +kernel
theorem dX3_add_42 : decode cX3_add 42 = .ok (.invokestatic 36, 3) := by decide +kernel
theorem dX3_add_45 : decode cX3_add 45 = .ok (.aload_n 0, 1) := by decide +kernel
theorem dX3_add_46 : decode cX3_add 46 = .ok (.getfield 11, 3) := by decide +kernel
theorem dX3_add_49 : decode cX3_add 49 = .ok (.iload 6, 2) := by decide +kernel
theorem dX3_add_51 : decode cX3_add 51 = .ok (.iconst 3, 1) := by decide +kernel
theorem dX3_add_52 : decode cX3_add 52 = .ok (.iadd, 1) := by decide +kernel
theorem dX3_add_53 : decode cX3_add 53 = .ok (.iload 4, 2) := by decide +kernel
theorem dX3_add_55 : decode cX3_add 55 = .ok (.invokestatic 36, 3) := by decide +kernel
theorem dX3_add_58 : decode cX3_add 58 = .ok (.aload_n 0, 1) := by decide +kernel
theorem dX3_add_59 : decode cX3_add 59 = .ok (.getfield 11, 3) := by decide +kernel
theorem dX3_add_62 : decode cX3_add 62 = .ok (.iload 6, 2) := by decide +kernel
theorem dX3_add_64 : decode cX3_add 64 = .ok (.iconst 4, 1) := by decide +kernel
theorem dX3_add_65 : decode cX3_add 65 = .ok (.iadd, 1) := by decide +kernel
theorem dX3_add_66 : decode cX3_add 66 = .ok (.iload 5, 2) := by decide +kernel
theorem dX3_add_68 : decode cX3_add 68 = .ok (.invokestatic 36, 3) := by decide +kernel
theorem dX3_add_71 : decode cX3_add 71 = .ok (.aload_n 0, 1) := by decide +kernel
theorem dX3_add_72 : decode cX3_add 72 = .ok (.getfield 11, 3) := by decide +kernel
theorem dX3_add_75 : decode cX3_add 75 = .ok (.iload 6, 2) := by decide +kernel
theorem dX3_add_77 : decode cX3_add 77 = .ok (.iconst 5, 1) := by decide +kernel
theorem dX3_add_78 : decode cX3_add 78 = .ok (.iadd, 1) := by decide +kernel
theorem dX3_add_79 : decode cX3_add 79 = .ok (.aload_n 0, 1) := by decide +kernel
theorem dX3_add_80 : decode cX3_add 80 = .ok (.iload_n 1, 1) := by decide +kernel
theorem dX3_add_81 : decode cX3_add 81 = .ok (.invokevirtual 40, 3) := by decide +kernel
theorem dX3_add_84 : decode cX3_add 84 = .ok (.invokestatic 36, 3) := by decide +kernel
theorem dX3_add_87 : decode cX3_add 87 = .ok (.aload_n 0, 1) := by decide +kernel
theorem dX3_add_88 : decode cX3_add 88 = .ok (.getfield 15, 3) := by decide +kernel
theorem dX3_add_91 : decode cX3_add 91 = .ok (.aload_n 0, 1) := by decide +kernel
theorem dX3_add_92 : decode cX3_add 92 = .ok (.getfield 21, 3) := by decide +kernel
theorem dX3_add_95 : decode cX3_add 95 = .ok (.iconst 0, 1) := by decide +kernel
theorem dX3_add_96 : decode cX3_add 96 = .ok (.invokestatic 36, 3) := by decide +kernel
theorem dX3_add_99 : decode cX3_add 99 = .ok (.aload_n 0, 1) := by decide +kernel
theorem dX3_add_100 : decode cX3_add 100 = .ok (.getfield 18, 3) := by decide +kernel
theorem dX3_add_103 : decode cX3_add 103 = .ok (.iload_n 1, 1) := by decide +kernel
theorem dX3_add_104 : decode cX3_add 104 = .ok (.aload_n 0, 1) := by decide +kernel
theorem dX3_add_105 : decode cX3_add 105 = .ok (.getfield 21, 3) := by decide +kernel
theorem dX3_add_108 : decode cX3_add 108 = .ok (.invokestatic 36, 3) := by decide +kernel
theorem dX3_add_111 : decode cX3_add 111 = .ok (.aload_n 0, 1) := by decide +kernel
theorem dX3_add_112 : decode cX3_add 112 = .ok (.dup, 1) := by decide +kernel
theorem dX3_add_113 : decode cX3_add 113 = .ok (.getfield 25, 3) := by decide +kernel
theorem dX3_add_116 : decode cX3_add 116 = .ok (.iload_n 2, 1) := by decide +kernel
theorem dX3_add_117 : decode cX3_add 117 = .ok (.iconst 3, 1) := by decide +kernel
theorem dX3_add_118 : decode cX3_add 118 = .ok (.invokestatic 32, 3) := by decide +kernel
theorem dX3_add_121 : decode cX3_add 121 = .ok (.ifCond .eq 7, 3) := by decide +kernel
theorem dX3_add_124 : decode cX3_add 124 = .ok (.iconst 1, 1) := by decide +kernel
theorem dX3_add_125 : decode cX3_add 125 = .ok (.goto 4, 3) := by decide +kernel
theorem dX3_add_128 : decode cX3_add 128 = .ok (.iconst 0, 1) := by decide +kernel
theorem dX3_add_129 : decode cX3_add 129 = .ok (.iadd, 1) := by decide +kernel
theorem dX3_add_130 : decode cX3_add 130 = .ok (.putfield 25, 3) := by decide +kernel
theorem dX3_add_133 : decode cX3_add 133 = .ok (.aload_n 0, 1) := by decide +kernel
theorem dX3_add_134 : decode cX3_add 134 = .ok (.dup, 1) := by decide +kernel
theorem dX3_add_135 : decode cX3_add 135 = .ok (.getfield 21, 3) := by decide +kernel
theorem dX3_add_138 : decode cX3_add 138 = .ok (.dup_x1, 1) := by decide +kernel
theorem dX3_add_139 : decode cX3_add 139 = .ok (.iconst 1, 1) := by decide +kernel
theorem dX3_add_140 : decode cX3_add 140 = .ok (.iadd, 1) := by decide +kernel
theorem dX3_add_141 : decode cX3_add 141 = .ok (.putfield 21, 3) := by decide +kernel
theorem dX3_add_144 : decode cX3_add 144 = .ok (.ireturn, 1) := by decide +kernel
theorem dX3_counted_0 : decode cX3_counted 0 = .ok (.aload_n 0, 1) := by decide +kernel
theorem dX3_counted_1 : decode cX3_counted 1 = .ok (.getfield 11, 3) := by decide +kernel
theorem dX3_counted_4 : decode cX3_counted 4 = .ok (.iload_n 1, 1) := by decide +kernel
theorem dX3_counted_5 : decode cX3_counted 5 = .ok (.bipush 6, 2) := by decide +kernel
theorem dX3_counted_7 : decode cX3_counted 7 = .ok (.imul, 1) := by decide +kernel
theorem dX3_counted_8 : decode cX3_counted 8 = .ok (.iconst 2, 1) := by decide +kernel
theorem dX3_counted_9 : decode cX3_counted 9 = .ok (.iadd, 1) := by decide +kernel
theorem dX3_counted_10 : decode cX3_counted 10 = .ok (.invokestatic 28, 3) := by decide +kernel
theorem dX3_counted_13 : decode cX3_counted 13 = .ok (.iload_n 2, 1) := by decide +kernel
theorem dX3_counted_14 : decode cX3_counted 14 = .ok (.isub, 1) := by decide +kernel
theorem dX3_counted_15 : decode cX3_counted 15 = .ok (.ireturn, 1) := by decide +kernel
theorem dX3_digestOn_0 : decode cX3_digestOn 0 = .ok (.lload_n 1, 1) := by decide +kernel
theorem dX3_digestOn_1 : decode cX3_digestOn 1 = .ok (.lstore_n 3, 1) := by decide +kernel
theorem dX3_digestOn_2 : decode cX3_digestOn 2 = .ok (.iconst 0, 1) := by decide +kernel
theorem dX3_digestOn_3 : decode cX3_digestOn 3 = .ok (.istore 5, 2) := by decide +kernel
theorem dX3_digestOn_5 : decode cX3_digestOn 5 = .ok (.iload 5, 2) := by decide +kernel
theorem dX3_digestOn_7 : decode cX3_digestOn 7 = .ok (.aload_n 0, 1) := by decide +kernel
theorem dX3_digestOn_8 : decode cX3_digestOn 8 = .ok (.getfield 21, 3) := by decide +kernel
theorem dX3_digestOn_11 : decode cX3_digestOn 11 = .ok (.if_icmp .ge 55, 3) := by decide +kernel
theorem dX3_digestOn_14 : decode cX3_digestOn 14 = .ok (.iconst 0, 1) := by decide +kernel
theorem dX3_digestOn_15 : decode cX3_digestOn 15 = .ok (.istore 6, 2) := by decide +kernel
theorem dX3_digestOn_17 : decode cX3_digestOn 17 = .ok (.iload 6, 2) := by decide +kernel
theorem dX3_digestOn_19 : decode cX3_digestOn 19 = .ok (.bipush 6, 2) := by decide +kernel
theorem dX3_digestOn_21 : decode cX3_digestOn 21 = .ok (.if_icmp .ge 25, 3) := by decide +kernel
theorem dX3_digestOn_24 : decode cX3_digestOn 24 = .ok (.ldc2_w 88, 3) := by decide +kernel
theorem dX3_digestOn_27 : decode cX3_digestOn 27 = .ok (.lload_n 3, 1) := by decide +kernel
theorem dX3_digestOn_28 : decode cX3_digestOn 28 = .ok (.lmul, 1) := by decide +kernel
theorem dX3_digestOn_29 : decode cX3_digestOn 29 = .ok (.aload_n 0, 1) := by decide +kernel
theorem dX3_digestOn_30 : decode cX3_digestOn 30 = .ok (.iload 5, 2) := by decide +kernel
theorem dX3_digestOn_32 : decode cX3_digestOn 32 = .ok (.iload 6, 2) := by decide +kernel
theorem dX3_digestOn_34 : decode cX3_digestOn 34 = .ok (.invokevirtual 44, 3) := by decide +kernel
theorem dX3_digestOn_37 : decode cX3_digestOn 37 = .ok (.i2l, 1) := by decide +kernel
theorem dX3_digestOn_38 : decode cX3_digestOn 38 = .ok (.ladd, 1) := by decide +kernel
theorem dX3_digestOn_39 : decode cX3_digestOn 39 = .ok (.lstore_n 3, 1) := by decide +kernel
theorem dX3_digestOn_40 : decode cX3_digestOn 40 = .ok (.iinc 6 1, 3) := by decide +kernel
theorem dX3_digestOn_43 : decode cX3_digestOn 43 = .ok (.goto (-26), 3) := by decide +kernel
theorem dX3_digestOn_46 : decode cX3_digestOn 46 = .ok (.ldc2_w 88, 3) := by decide +kernel
theorem dX3_digestOn_49 : decode cX3_digestOn 49 = .ok (.lload_n 3, 1) := by decide +kernel
theorem dX3_digestOn_50 : decode cX3_digestOn 50 = .ok (.lmul, 1) := by decide +kernel
theorem dX3_digestOn_51 : decode cX3_digestOn 51 = .ok (.aload_n 0, 1) := by decide +kernel
theorem dX3_digestOn_52 : decode cX3_digestOn 52 = .ok (.iload 5, 2) := by decide +kernel
theorem dX3_digestOn_54 : decode cX3_digestOn 54 = .ok (.invokevirtual 48, 3) := by decide +kernel
theorem dX3_digestOn_57 : decode cX3_digestOn 57 = .ok (.i2l, 1) := by decide +kernel
theorem dX3_digestOn_58 : decode cX3_digestOn 58 = .ok (.ladd, 1) := by decide +kernel
theorem dX3_digestOn_59 : decode cX3_digestOn 59 = .ok (.lstore_n 3, 1) := by decide +kernel
theorem dX3_digestOn_60 : decode cX3_digestOn 60 = .ok (.iinc 5 1, 3) := by decide +kernel
theorem dX3_digestOn_63 : decode cX3_digestOn 63 = .ok (.goto (-58), 3) := by decide +kernel
theorem dX3_digestOn_66 : decode cX3_digestOn 66 = .ok (.lload_n 3, 1) := by decide +kernel
theorem dX3_digestOn_67 : decode cX3_digestOn 67 = .ok (.lreturn, 1) := by decide +kernel
theorem dX3_fact_0 : decode cX3_fact 0 = .ok (.aload_n 0, 1) := by decide +kernel
theorem dX3_fact_1 : decode cX3_fact 1 = .ok (.getfield 11, 3) := by decide +kernel
theorem dX3_fact_4 : decode cX3_fact 4 = .ok (.iload_n 1, 1) := by decide +kernel
theorem dX3_fact_5 : decode cX3_fact 5 = .ok (.bipush 6, 2) := by decide +kernel
theorem dX3_fact_7 : decode cX3_fact 7 = .ok (.imul, 1) := by decide +kernel
theorem dX3_fact_8 : decode cX3_fact 8 = .ok (.iload_n 2, 1) := by decide +kernel
theorem dX3_fact_9 : decode cX3_fact 9 = .ok (.iadd, 1) := by decide +kernel
theorem dX3_fact_10 : decode cX3_fact 10 = .ok (.invokestatic 28, 3) := by decide +kernel
theorem dX3_fact_13 : decode cX3_fact 13 = .ok (.ireturn, 1) := by decide +kernel
theorem dX3_has_0 : decode cX3_has 0 = .ok (.iload_n 1, 1) := by decide +kernel
theorem dX3_has_1 : decode cX3_has 1 = .ok (.ifCond .lt 15, 3) := by decide +kernel
theorem dX3_has_4 : decode cX3_has 4 = .ok (.iload_n 1, 1) := by decide +kernel
theorem dX3_has_5 : decode cX3_has 5 = .ok (.aload_n 0, 1) := by decide +kernel
theorem dX3_has_6 : decode cX3_has 6 = .ok (.getfield 21, 3) := by decide +kernel
theorem dX3_has_9 : decode cX3_has 9 = .ok (.if_icmp .ge 7, 3) := by decide +kernel
theorem dX3_has_12 : decode cX3_has 12 = .ok (.iconst 1, 1) := by decide +kernel
theorem dX3_has_13 : decode cX3_has 13 = .ok (.goto 4, 3) := by decide +kernel
theorem dX3_has_16 : decode cX3_has 16 = .ok (.iconst 0, 1) := by decide +kernel
theorem dX3_has_17 : decode cX3_has 17 = .ok (.ireturn, 1) := by decide +kernel
theorem dX3_hasRoomFor_0 : decode cX3_hasRoomFor 0 = .ok (.aload_n 0, 1) := by decide +kernel
theorem dX3_hasRoomFor_1 : decode cX3_hasRoomFor 1 = .ok (.getfield 21, 3) := by decide +kernel
theorem dX3_hasRoomFor_4 : decode cX3_hasRoomFor 4 = .ok (.bipush 10, 2) := by decide +kernel
theorem dX3_hasRoomFor_6 : decode cX3_hasRoomFor 6 = .ok (.if_icmp .ge 23, 3) := by decide +kernel
theorem dX3_hasRoomFor_9 : decode cX3_hasRoomFor 9 = .ok (.iload_n 1, 1) := by decide +kernel
theorem dX3_hasRoomFor_10 : decode cX3_hasRoomFor 10 = .ok (.iconst 3, 1) := by decide +kernel
theorem dX3_hasRoomFor_11 : decode cX3_hasRoomFor 11 = .ok (.invokestatic 32, 3) := by decide +kernel
theorem dX3_hasRoomFor_14 : decode cX3_hasRoomFor 14 = .ok (.ifCond .eq 11, 3) := by decide +kernel
theorem dX3_hasRoomFor_17 : decode cX3_hasRoomFor 17 = .ok (.aload_n 0, 1) := by decide +kernel
theorem dX3_hasRoomFor_18 : decode cX3_hasRoomFor 18 = .ok (.getfield 25, 3) := by decide +kernel
theorem dX3_hasRoomFor_21 : decode cX3_hasRoomFor 21 = .ok (.iconst 3, 1) := by decide +kernel
theorem dX3_hasRoomFor_22 : decode cX3_hasRoomFor 22 = .ok (.if_icmp .ge 7, 3) := by decide +kernel
theorem dX3_hasRoomFor_25 : decode cX3_hasRoomFor 25 = .ok (.iconst 1, 1) := by decide +kernel
theorem dX3_hasRoomFor_26 : decode cX3_hasRoomFor 26 = .ok (.goto 4, 3) := by decide +kernel
theorem dX3_hasRoomFor_29 : decode cX3_hasRoomFor 29 = .ok (.iconst 0, 1) := by decide +kernel
theorem dX3_hasRoomFor_30 : decode cX3_hasRoomFor 30 = .ok (.ireturn, 1) := by decide +kernel
theorem dX3_init_0 : decode cX3_init 0 = .ok (.aload_n 0, 1) := by decide +kernel
theorem dX3_init_1 : decode cX3_init 1 = .ok (.invokespecial 3, 3) := by decide +kernel
theorem dX3_init_4 : decode cX3_init 4 = .ok (.aload_n 0, 1) := by decide +kernel
theorem dX3_init_5 : decode cX3_init 5 = .ok (.bipush 60, 2) := by decide +kernel
theorem dX3_init_7 : decode cX3_init 7 = .ok (.newarray .int, 2) := by decide +kernel
theorem dX3_init_9 : decode cX3_init 9 = .ok (.putfield 11, 3) := by decide +kernel
theorem dX3_init_12 : decode cX3_init 12 = .ok (.aload_n 0, 1) := by decide +kernel
theorem dX3_init_13 : decode cX3_init 13 = .ok (.bipush 10, 2) := by decide +kernel
theorem dX3_init_15 : decode cX3_init 15 = .ok (.newarray .int, 2) := by decide +kernel
theorem dX3_init_17 : decode cX3_init 17 = .ok (.putfield 15, 3) := by decide +kernel
theorem dX3_init_20 : decode cX3_init 20 = .ok (.aload_n 0, 1) := by decide +kernel
theorem dX3_init_21 : decode cX3_init 21 = .ok (.iconst 5, 1) := by decide +kernel
theorem dX3_init_22 : decode cX3_init 22 = .ok (.newarray .int, 2) := by decide +kernel
theorem dX3_init_24 : decode cX3_init 24 = .ok (.dup, 1) := by decide +kernel
theorem dX3_init_25 : decode cX3_init 25 = .ok (.iconst 0, 1) := by decide +kernel
theorem dX3_init_26 : decode cX3_init 26 = .ok (.iconst (-1), 1) := by decide +kernel
theorem dX3_init_27 : decode cX3_init 27 = .ok (.iastore, 1) := by decide +kernel
theorem dX3_init_28 : decode cX3_init 28 = .ok (.dup, 1) := by decide +kernel
theorem dX3_init_29 : decode cX3_init 29 = .ok (.iconst 1, 1) := by decide +kernel
theorem dX3_init_30 : decode cX3_init 30 = .ok (.iconst (-1), 1) := by decide +kernel
theorem dX3_init_31 : decode cX3_init 31 = .ok (.iastore, 1) := by decide +kernel
theorem dX3_init_32 : decode cX3_init 32 = .ok (.dup, 1) := by decide +kernel
theorem dX3_init_33 : decode cX3_init 33 = .ok (.iconst 2, 1) := by decide +kernel
theorem dX3_init_34 : decode cX3_init 34 = .ok (.iconst (-1), 1) := by decide +kernel
theorem dX3_init_35 : decode cX3_init 35 = .ok (.iastore, 1) := by decide +kernel
theorem dX3_init_36 : decode cX3_init 36 = .ok (.dup, 1) := by decide +kernel
theorem dX3_init_37 : decode cX3_init 37 = .ok (.iconst 3, 1) := by decide +kernel
theorem dX3_init_38 : decode cX3_init 38 = .ok (.iconst (-1), 1) := by decide +kernel
theorem dX3_init_39 : decode cX3_init 39 = .ok (.iastore, 1) := by decide +kernel
theorem dX3_init_40 : decode cX3_init 40 = .ok (.dup, 1) := by decide +kernel
theorem dX3_init_41 : decode cX3_init 41 = .ok (.iconst 4, 1) := by decide +kernel
theorem dX3_init_42 : decode cX3_init 42 = .ok (.iconst (-1), 1) := by decide +kernel
theorem dX3_init_43 : decode cX3_init 43 = .ok (.iastore, 1) := by decide +kernel
theorem dX3_init_44 : decode cX3_init 44 = .ok (.putfield 18, 3) := by decide +kernel
theorem dX3_init_47 : decode cX3_init 47 = .ok (.aload_n 0, 1) := by decide +kernel
theorem dX3_init_48 : decode cX3_init 48 = .ok (.iconst 0, 1) := by decide +kernel
theorem dX3_init_49 : decode cX3_init 49 = .ok (.putfield 21, 3) := by decide +kernel
theorem dX3_init_52 : decode cX3_init 52 = .ok (.aload_n 0, 1) := by decide +kernel
theorem dX3_init_53 : decode cX3_init 53 = .ok (.iconst 0, 1) := by decide +kernel
theorem dX3_init_54 : decode cX3_init 54 = .ok (.putfield 25, 3) := by decide +kernel
theorem dX3_init_57 : decode cX3_init 57 = .ok (.return_, 1) := by decide +kernel
theorem dX3_isKnown_0 : decode cX3_isKnown 0 = .ok (.aload_n 0, 1) := by decide +kernel
theorem dX3_isKnown_1 : decode cX3_isKnown 1 = .ok (.iload_n 1, 1) := by decide +kernel
theorem dX3_isKnown_2 : decode cX3_isKnown 2 = .ok (.invokevirtual 51, 3) := by decide +kernel
theorem dX3_isKnown_5 : decode cX3_isKnown 5 = .ok (.ifCond .eq 17, 3) := by decide +kernel
theorem dX3_isKnown_8 : decode cX3_isKnown 8 = .ok (.aload_n 0, 1) := by decide +kernel
theorem dX3_isKnown_9 : decode cX3_isKnown 9 = .ok (.iload_n 1, 1) := by decide +kernel
theorem dX3_isKnown_10 : decode cX3_isKnown 10 = .ok (.iconst 4, 1) := by decide +kernel
theorem dX3_isKnown_11 : decode cX3_isKnown 11 = .ok (.invokevirtual 44, 3) := by decide +kernel
theorem dX3_isKnown_14 : decode cX3_isKnown 14 = .ok (.iload_n 2, 1) := by decide +kernel
theorem dX3_isKnown_15 : decode cX3_isKnown 15 = .ok (.if_icmp .gt 7, 3) := by decide +kernel
theorem dX3_isKnown_18 : decode cX3_isKnown 18 = .ok (.iconst 1, 1) := by decide +kernel
theorem dX3_isKnown_19 : decode cX3_isKnown 19 = .ok (.goto 4, 3) := by decide +kernel
theorem dX3_isKnown_22 : decode cX3_isKnown 22 = .ok (.iconst 0, 1) := by decide +kernel
theorem dX3_isKnown_23 : decode cX3_isKnown 23 = .ok (.ireturn, 1) := by decide +kernel
theorem dX3_isMisread_0 : decode cX3_isMisread 0 = .ok (.aload_n 0, 1) := by decide +kernel
theorem dX3_isMisread_1 : decode cX3_isMisread 1 = .ok (.iload_n 1, 1) := by decide +kernel
theorem dX3_isMisread_2 : decode cX3_isMisread 2 = .ok (.iconst 1, 1) := by decide +kernel
theorem dX3_isMisread_3 : decode cX3_isMisread 3 = .ok (.invokevirtual 44, 3) := by decide +kernel
theorem dX3_isMisread_6 : decode cX3_isMisread 6 = .ok (.iconst 3, 1) := by decide +kernel
theorem dX3_isMisread_7 : decode cX3_isMisread 7 = .ok (.invokestatic 32, 3) := by decide +kernel
theorem dX3_isMisread_10 : decode cX3_isMisread 10 = .ok (.ireturn, 1) := by decide +kernel
theorem dX3_isOf_0 : decode cX3_isOf 0 = .ok (.iload_n 1, 1) := by decide +kernel
theorem dX3_isOf_1 : decode cX3_isOf 1 = .ok (.ifCond .eq 19, 3) := by decide +kernel
theorem dX3_isOf_4 : decode cX3_isOf 4 = .ok (.iload_n 0, 1) := by decide +kernel
theorem dX3_isOf_5 : decode cX3_isOf 5 = .ok (.iload_n 1, 1) := by decide +kernel
theorem dX3_isOf_6 : decode cX3_isOf 6 = .ok (.if_icmp .eq 14, 3) := by decide +kernel
theorem dX3_isOf_9 : decode cX3_isOf 9 = .ok (.iload_n 0, 1) := by decide +kernel
theorem dX3_isOf_10 : decode cX3_isOf 10 = .ok (.bipush 6, 2) := by decide +kernel
theorem dX3_isOf_12 : decode cX3_isOf 12 = .ok (.if_icmp .ne 12, 3) := by decide +kernel
theorem dX3_isOf_15 : decode cX3_isOf 15 = .ok (.iload_n 1, 1) := by decide +kernel
theorem dX3_isOf_16 : decode cX3_isOf 16 = .ok (.iconst 3, 1) := by decide +kernel
theorem dX3_isOf_17 : decode cX3_isOf 17 = .ok (.if_icmp .ne 7, 3) := by decide +kernel
theorem dX3_isOf_20 : decode cX3_isOf 20 = .ok (.iconst 1, 1) := by decide +kernel
theorem dX3_isOf_21 : decode cX3_isOf 21 = .ok (.goto 4, 3) := by decide +kernel
theorem dX3_isOf_24 : decode cX3_isOf 24 = .ok (.iconst 0, 1) := by decide +kernel
theorem dX3_isOf_25 : decode cX3_isOf 25 = .ok (.ireturn, 1) := by decide +kernel
theorem dX3_isToldBehind_0 : decode cX3_isToldBehind 0 = .ok (.aload_n 0, 1) := by decide +kernel
theorem dX3_isToldBehind_1 : decode cX3_isToldBehind 1 = .ok (.iload_n 1, 1) := by decide +kernel
theorem dX3_isToldBehind_2 : decode cX3_isToldBehind 2 = .ok (.invokevirtual 48, 3) := by decide +kernel
theorem dX3_isToldBehind_5 : decode cX3_isToldBehind 5 = .ok (.aload_n 0, 1) := by decide +kernel
theorem dX3_isToldBehind_6 : decode cX3_isToldBehind 6 = .ok (.iload_n 2, 1) := by decide +kernel
theorem dX3_isToldBehind_7 : decode cX3_isToldBehind 7 = .ok (.invokevirtual 48, 3) := by decide +kernel
theorem dX3_isToldBehind_10 : decode cX3_isToldBehind 10 = .ok (.isub, 1) := by decide +kernel
theorem dX3_isToldBehind_11 : decode cX3_isToldBehind 11 = .ok (.aload_n 0, 1) := by decide +kernel
theorem dX3_isToldBehind_12 : decode cX3_isToldBehind 12 = .ok (.iload_n 1, 1) := by decide +kernel
theorem dX3_isToldBehind_13 : decode cX3_isToldBehind 13 = .ok (.invokevirtual 81, 3) := by decide +kernel
theorem dX3_isToldBehind_16 : decode cX3_isToldBehind 16 = .ok (.iadd, 1) := by decide +kernel
theorem dX3_isToldBehind_17 : decode cX3_isToldBehind 17 = .ok (.istore 4, 2) := by decide +kernel
theorem dX3_isToldBehind_19 : decode cX3_isToldBehind 19 = .ok (.aload_n 0, 1) := by decide +kernel
theorem dX3_isToldBehind_20 : decode cX3_isToldBehind 20 = .ok (.iload_n 2, 1) := by decide +kernel
theorem dX3_isToldBehind_21 : decode cX3_isToldBehind 21 = .ok (.iload_n 3, 1) := by decide +kernel
theorem dX3_isToldBehind_22 : decode cX3_isToldBehind 22 = .ok (.invokevirtual 75, 3) := by decide +kernel
theorem dX3_isToldBehind_25 : decode cX3_isToldBehind 25 = .ok (.istore 5, 2) := by decide +kernel
theorem dX3_isToldBehind_27 : decode cX3_isToldBehind 27 = .ok (.aload_n 0, 1) := by decide +kernel
theorem dX3_isToldBehind_28 : decode cX3_isToldBehind 28 = .ok (.iload_n 2, 1) := by decide +kernel
theorem dX3_isToldBehind_29 : decode cX3_isToldBehind 29 = .ok (.iload_n 3, 1) := by decide +kernel
theorem dX3_isToldBehind_30 : decode cX3_isToldBehind 30 = .ok (.invokevirtual 72, 3) := by decide +kernel
theorem dX3_isToldBehind_33 : decode cX3_isToldBehind 33 = .ok (.istore 6, 2) := by decide +kernel
theorem dX3_isToldBehind_35 : decode cX3_isToldBehind 35 = .ok (.aload_n 0, 1) := by decide +kernel
theorem dX3_isToldBehind_36 : decode cX3_isToldBehind 36 = .ok (.iload_n 2, 1) := by decide +kernel
theorem dX3_isToldBehind_37 : decode cX3_isToldBehind 37 = .ok (.invokevirtual 78, 3) := by decide +kernel
theorem dX3_isToldBehind_40 : decode cX3_isToldBehind 40 = .ok (.ifCond .eq 23, 3) := by decide +kernel
theorem dX3_isToldBehind_43 : decode cX3_isToldBehind 43 = .ok (.iload 4, 2) := by decide +kernel
theorem dX3_isToldBehind_45 : decode cX3_isToldBehind 45 = .ok (.iload 5, 2) := by decide +kernel
theorem dX3_isToldBehind_47 : decode cX3_isToldBehind 47 = .ok (.if_icmp .eq 10, 3) := by decide +kernel
theorem dX3_isToldBehind_50 : decode cX3_isToldBehind 50 = .ok (.iload 4, 2) := by decide +kernel
theorem dX3_isToldBehind_52 : decode cX3_isToldBehind 52 = .ok (.iload 6, 2) := by decide +kernel
theorem dX3_isToldBehind_54 : decode cX3_isToldBehind 54 = .ok (.if_icmp .ne 7, 3) := by decide +kernel
theorem dX3_isToldBehind_57 : decode cX3_isToldBehind 57 = .ok (.iconst 1, 1) := by decide +kernel
theorem dX3_isToldBehind_58 : decode cX3_isToldBehind 58 = .ok (.goto 4, 3) := by decide +kernel
theorem dX3_isToldBehind_61 : decode cX3_isToldBehind 61 = .ok (.iconst 0, 1) := by decide +kernel
theorem dX3_isToldBehind_62 : decode cX3_isToldBehind 62 = .ok (.ireturn, 1) := by decide +kernel
theorem dX3_isToldBehind_63 : decode cX3_isToldBehind 63 = .ok (.iload 4, 2) := by decide +kernel
theorem dX3_isToldBehind_65 : decode cX3_isToldBehind 65 = .ok (.iload 5, 2) := by decide +kernel
theorem dX3_isToldBehind_67 : decode cX3_isToldBehind 67 = .ok (.iload 6, 2) := by decide +kernel
theorem dX3_isToldBehind_69 : decode cX3_isToldBehind 69 = .ok (.invokestatic 84, 3) := by decide +kernel
theorem dX3_isToldBehind_72 : decode cX3_isToldBehind 72 = .ok (.ireturn, 1) := by decide +kernel
theorem dX3_knownBits_0 : decode cX3_knownBits 0 = .ok (.iconst 0, 1) := by decide +kernel
theorem dX3_knownBits_1 : decode cX3_knownBits 1 = .ok (.istore_n 2, 1) := by decide +kernel
theorem dX3_knownBits_2 : decode cX3_knownBits 2 = .ok (.iconst 0, 1) := by decide +kernel
theorem dX3_knownBits_3 : decode cX3_knownBits 3 = .ok (.istore_n 3, 1) := by decide +kernel
theorem dX3_knownBits_4 : decode cX3_knownBits 4 = .ok (.iload_n 3, 1) := by decide +kernel
theorem dX3_knownBits_5 : decode cX3_knownBits 5 = .ok (.aload_n 0, 1) := by decide +kernel
theorem dX3_knownBits_6 : decode cX3_knownBits 6 = .ok (.getfield 21, 3) := by decide +kernel
theorem dX3_knownBits_9 : decode cX3_knownBits 9 = .ok (.if_icmp .ge 28, 3) := by decide +kernel
theorem dX3_knownBits_12 : decode cX3_knownBits 12 = .ok (.iload_n 2, 1) := by decide +kernel
theorem dX3_knownBits_13 : decode cX3_knownBits 13 = .ok (.aload_n 0, 1) := by decide +kernel
theorem dX3_knownBits_14 : decode cX3_knownBits 14 = .ok (.iload_n 3, 1) := by decide +kernel
theorem dX3_knownBits_15 : decode cX3_knownBits 15 = .ok (.iload_n 1, 1) := by decide +kernel
theorem dX3_knownBits_16 : decode cX3_knownBits 16 = .ok (.invokevirtual 55, 3) := by decide +kernel
theorem dX3_knownBits_19 : decode cX3_knownBits 19 = .ok (.ifCond .eq 9, 3) := by decide +kernel
theorem dX3_knownBits_22 : decode cX3_knownBits 22 = .ok (.iconst 1, 1) := by decide +kernel
theorem dX3_knownBits_23 : decode cX3_knownBits 23 = .ok (.iload_n 3, 1) := by decide +kernel
theorem dX3_knownBits_24 : decode cX3_knownBits 24 = .ok (.ishl, 1) := by decide +kernel
theorem dX3_knownBits_25 : decode cX3_knownBits 25 = .ok (.goto 4, 3) := by decide +kernel
theorem dX3_knownBits_28 : decode cX3_knownBits 28 = .ok (.iconst 0, 1) := by decide +kernel
theorem dX3_knownBits_29 : decode cX3_knownBits 29 = .ok (.ior, 1) := by decide +kernel
theorem dX3_knownBits_30 : decode cX3_knownBits 30 = .ok (.istore_n 2, 1) := by decide +kernel
theorem dX3_knownBits_31 : decode cX3_knownBits 31 = .ok (.iinc 3 1, 3) := by decide +kernel
theorem dX3_knownBits_34 : decode cX3_knownBits 34 = .ok (.goto (-30), 3) := by decide +kernel
theorem dX3_knownBits_37 : decode cX3_knownBits 37 = .ok (.iload_n 2, 1) := by decide +kernel
theorem dX3_knownBits_38 : decode cX3_knownBits 38 = .ok (.ireturn, 1) := by decide +kernel
theorem dX3_lastOf_0 : decode cX3_lastOf 0 = .ok (.aload_n 0, 1) := by decide +kernel
theorem dX3_lastOf_1 : decode cX3_lastOf 1 = .ok (.getfield 18, 3) := by decide +kernel
theorem dX3_lastOf_4 : decode cX3_lastOf 4 = .ok (.iload_n 1, 1) := by decide +kernel
theorem dX3_lastOf_5 : decode cX3_lastOf 5 = .ok (.invokestatic 28, 3) := by decide +kernel
theorem dX3_lastOf_8 : decode cX3_lastOf 8 = .ok (.ireturn, 1) := by decide +kernel
theorem dX3_lengths_0 : decode cX3_lengths 0 = .ok (.aload_n 0, 1) := by decide +kernel
theorem dX3_lengths_1 : decode cX3_lengths 1 = .ok (.iload_n 1, 1) := by decide +kernel
theorem dX3_lengths_2 : decode cX3_lengths 2 = .ok (.iload_n 2, 1) := by decide +kernel
theorem dX3_lengths_3 : decode cX3_lengths 3 = .ok (.invokevirtual 72, 3) := by decide +kernel
theorem dX3_lengths_6 : decode cX3_lengths 6 = .ok (.aload_n 0, 1) := by decide +kernel
theorem dX3_lengths_7 : decode cX3_lengths 7 = .ok (.iload_n 1, 1) := by decide +kernel
theorem dX3_lengths_8 : decode cX3_lengths 8 = .ok (.iload_n 2, 1) := by decide +kernel
theorem dX3_lengths_9 : decode cX3_lengths 9 = .ok (.invokevirtual 75, 3) := by decide +kernel
theorem dX3_lengths_12 : decode cX3_lengths 12 = .ok (.isub, 1) := by decide +kernel
theorem dX3_lengths_13 : decode cX3_lengths 13 = .ok (.istore_n 3, 1) := by decide +kernel
theorem dX3_lengths_14 : decode cX3_lengths 14 = .ok (.aload_n 0, 1) := by decide +kernel
theorem dX3_lengths_15 : decode cX3_lengths 15 = .ok (.iload_n 1, 1) := by decide +kernel
theorem dX3_lengths_16 : decode cX3_lengths 16 = .ok (.invokevirtual 78, 3) := by decide +kernel
theorem dX3_lengths_19 : decode cX3_lengths 19 = .ok (.ifCond .eq 13, 3) := by decide +kernel
theorem dX3_lengths_22 : decode cX3_lengths 22 = .ok (.iload_n 3, 1) := by decide +kernel
theorem dX3_lengths_23 : decode cX3_lengths 23 = .ok (.iconst 1, 1) := by decide +kernel
theorem dX3_lengths_24 : decode cX3_lengths 24 = .ok (.invokestatic 69, 3) := by decide +kernel
theorem dX3_lengths_27 : decode cX3_lengths 27 = .ok (.iconst 1, 1) := by decide +kernel
theorem dX3_lengths_28 : decode cX3_lengths 28 = .ok (.iadd, 1) := by decide +kernel
theorem dX3_lengths_29 : decode cX3_lengths 29 = .ok (.goto 6, 3) := by decide +kernel
theorem dX3_lengths_32 : decode cX3_lengths 32 = .ok (.iload_n 3, 1) := by decide +kernel
theorem dX3_lengths_33 : decode cX3_lengths 33 = .ok (.iconst 1, 1) := by decide +kernel
theorem dX3_lengths_34 : decode cX3_lengths 34 = .ok (.iadd, 1) := by decide +kernel
theorem dX3_lengths_35 : decode cX3_lengths 35 = .ok (.ireturn, 1) := by decide +kernel
theorem dX3_longest_0 : decode cX3_longest 0 = .ok (.aload_n 0, 1) := by decide +kernel
theorem dX3_longest_1 : decode cX3_longest 1 = .ok (.iload_n 1, 1) := by decide +kernel
theorem dX3_longest_2 : decode cX3_longest 2 = .ok (.iconst 1, 1) := by decide +kernel
theorem dX3_longest_3 : decode cX3_longest 3 = .ok (.invokevirtual 44, 3) := by decide +kernel
theorem dX3_longest_6 : decode cX3_longest 6 = .ok (.tableswitch 49 3 6 #[33, 49, 30, 33], 30) := by decide +kernel
theorem dX3_longest_36 : decode cX3_longest 36 = .ok (.bipush 60, 2) := by decide +kernel
theorem dX3_longest_38 : decode cX3_longest 38 = .ok (.ireturn, 1) := by decide +kernel
theorem dX3_longest_39 : decode cX3_longest 39 = .ok (.aload_n 0, 1) := by decide +kernel
theorem dX3_longest_40 : decode cX3_longest 40 = .ok (.iload_n 1, 1) := by decide +kernel
theorem dX3_longest_41 : decode cX3_longest 41 = .ok (.iload_n 2, 1) := by decide +kernel
theorem dX3_longest_42 : decode cX3_longest 42 = .ok (.invokevirtual 63, 3) := by decide +kernel
theorem dX3_longest_45 : decode cX3_longest 45 = .ok (.aload_n 0, 1) := by decide +kernel
theorem dX3_longest_46 : decode cX3_longest 46 = .ok (.iload_n 1, 1) := by decide +kernel
theorem dX3_longest_47 : decode cX3_longest 47 = .ok (.iload_n 2, 1) := by decide +kernel
theorem dX3_longest_48 : decode cX3_longest 48 = .ok (.invokevirtual 66, 3) := by decide +kernel
theorem dX3_longest_51 : decode cX3_longest 51 = .ok (.invokestatic 58, 3) := by decide +kernel
theorem dX3_longest_54 : decode cX3_longest 54 = .ok (.ireturn, 1) := by decide +kernel
theorem dX3_longest_55 : decode cX3_longest 55 = .ok (.aload_n 0, 1) := by decide +kernel
theorem dX3_longest_56 : decode cX3_longest 56 = .ok (.iload_n 1, 1) := by decide +kernel
theorem dX3_longest_57 : decode cX3_longest 57 = .ok (.iload_n 2, 1) := by decide +kernel
theorem dX3_longest_58 : decode cX3_longest 58 = .ok (.invokevirtual 63, 3) := by decide +kernel
theorem dX3_longest_61 : decode cX3_longest 61 = .ok (.ireturn, 1) := by decide +kernel
theorem dX3_otherReading_0 : decode cX3_otherReading 0 = .ok (.aload_n 0, 1) := by decide +kernel
theorem dX3_otherReading_1 : decode cX3_otherReading 1 = .ok (.getfield 11, 3) := by decide +kernel
theorem dX3_otherReading_4 : decode cX3_otherReading 4 = .ok (.iload_n 1, 1) := by decide +kernel
theorem dX3_otherReading_5 : decode cX3_otherReading 5 = .ok (.bipush 6, 2) := by decide +kernel
theorem dX3_otherReading_7 : decode cX3_otherReading 7 = .ok (.imul, 1) := by decide +kernel
theorem dX3_otherReading_8 : decode cX3_otherReading 8 = .ok (.iconst 1, 1) := by decide +kernel
theorem dX3_otherReading_9 : decode cX3_otherReading 9 = .ok (.iadd, 1) := by decide +kernel
theorem dX3_otherReading_10 : decode cX3_otherReading 10 = .ok (.invokestatic 28, 3) := by decide +kernel
theorem dX3_otherReading_13 : decode cX3_otherReading 13 = .ok (.bipush 6, 2) := by decide +kernel
theorem dX3_otherReading_15 : decode cX3_otherReading 15 = .ok (.if_icmp .ne 7, 3) := by decide +kernel
theorem dX3_otherReading_18 : decode cX3_otherReading 18 = .ok (.iconst 1, 1) := by decide +kernel
theorem dX3_otherReading_19 : decode cX3_otherReading 19 = .ok (.goto 4, 3) := by decide +kernel
theorem dX3_otherReading_22 : decode cX3_otherReading 22 = .ok (.iconst 0, 1) := by decide +kernel
theorem dX3_otherReading_23 : decode cX3_otherReading 23 = .ok (.istore_n 3, 1) := by decide +kernel
theorem dX3_otherReading_24 : decode cX3_otherReading 24 = .ok (.iload_n 3, 1) := by decide +kernel
theorem dX3_otherReading_25 : decode cX3_otherReading 25 = .ok (.ifCond .eq 7, 3) := by decide +kernel
theorem dX3_otherReading_28 : decode cX3_otherReading 28 = .ok (.iconst 0, 1) := by decide +kernel
theorem dX3_otherReading_29 : decode cX3_otherReading 29 = .ok (.goto 22, 3) := by decide +kernel
theorem dX3_otherReading_32 : decode cX3_otherReading 32 = .ok (.iconst 0, 1) := by decide +kernel
theorem dX3_otherReading_33 : decode cX3_otherReading 33 = .ok (.aload_n 0, 1) := by decide +kernel
theorem dX3_otherReading_34 : decode cX3_otherReading 34 = .ok (.getfield 11, 3) := by decide +kernel
theorem dX3_otherReading_37 : decode cX3_otherReading 37 = .ok (.iload_n 1, 1) := by decide +kernel
theorem dX3_otherReading_38 : decode cX3_otherReading 38 = .ok (.bipush 6, 2) := by decide +kernel
theorem dX3_otherReading_40 : decode cX3_otherReading 40 = .ok (.imul, 1) := by decide +kernel
theorem dX3_otherReading_41 : decode cX3_otherReading 41 = .ok (.iconst 3, 1) := by decide +kernel
theorem dX3_otherReading_42 : decode cX3_otherReading 42 = .ok (.iadd, 1) := by decide +kernel
theorem dX3_otherReading_43 : decode cX3_otherReading 43 = .ok (.invokestatic 28, 3) := by decide +kernel
theorem dX3_otherReading_46 : decode cX3_otherReading 46 = .ok (.iload_n 2, 1) := by decide +kernel
theorem dX3_otherReading_47 : decode cX3_otherReading 47 = .ok (.isub, 1) := by decide +kernel
theorem dX3_otherReading_48 : decode cX3_otherReading 48 = .ok (.invokestatic 58, 3) := by decide +kernel
theorem dX3_otherReading_51 : decode cX3_otherReading 51 = .ok (.ireturn, 1) := by decide +kernel
theorem dX3_overlap_0 : decode cX3_overlap 0 = .ok (.aload_n 0, 1) := by decide +kernel
theorem dX3_overlap_1 : decode cX3_overlap 1 = .ok (.iload_n 1, 1) := by decide +kernel
theorem dX3_overlap_2 : decode cX3_overlap 2 = .ok (.iconst 1, 1) := by decide +kernel
theorem dX3_overlap_3 : decode cX3_overlap 3 = .ok (.invokevirtual 44, 3) := by decide +kernel
theorem dX3_overlap_6 : decode cX3_overlap 6 = .ok (.iconst 1, 1) := by decide +kernel
theorem dX3_overlap_7 : decode cX3_overlap 7 = .ok (.if_icmp .ne 12, 3) := by decide +kernel
theorem dX3_overlap_10 : decode cX3_overlap 10 = .ok (.aload_n 0, 1) := by decide +kernel
theorem dX3_overlap_11 : decode cX3_overlap 11 = .ok (.iload_n 1, 1) := by decide +kernel
theorem dX3_overlap_12 : decode cX3_overlap 12 = .ok (.iconst 3, 1) := by decide +kernel
theorem dX3_overlap_13 : decode cX3_overlap 13 = .ok (.invokevirtual 44, 3) := by decide +kernel
theorem dX3_overlap_16 : decode cX3_overlap 16 = .ok (.goto 4, 3) := by decide +kernel
theorem dX3_overlap_19 : decode cX3_overlap 19 = .ok (.iconst 0, 1) := by decide +kernel
theorem dX3_overlap_20 : decode cX3_overlap 20 = .ok (.ireturn, 1) := by decide +kernel
theorem dX3_renumber_0 : decode cX3_renumber 0 = .ok (.aload_n 0, 1) := by decide +kernel
theorem dX3_renumber_1 : decode cX3_renumber 1 = .ok (.iload_n 1, 1) := by decide +kernel
theorem dX3_renumber_2 : decode cX3_renumber 2 = .ok (.iconst 2, 1) := by decide +kernel
theorem dX3_renumber_3 : decode cX3_renumber 3 = .ok (.invokevirtual 44, 3) := by decide +kernel
theorem dX3_renumber_6 : decode cX3_renumber 6 = .ok (.istore_n 3, 1) := by decide +kernel
theorem dX3_renumber_7 : decode cX3_renumber 7 = .ok (.aload_n 0, 1) := by decide +kernel
theorem dX3_renumber_8 : decode cX3_renumber 8 = .ok (.getfield 11, 3) := by decide +kernel
theorem dX3_renumber_11 : decode cX3_renumber 11 = .ok (.iload_n 1, 1) := by decide +kernel
theorem dX3_renumber_12 : decode cX3_renumber 12 = .ok (.bipush 6, 2) := by decide +kernel
theorem dX3_renumber_14 : decode cX3_renumber 14 = .ok (.imul, 1) := by decide +kernel
theorem dX3_renumber_15 : decode cX3_renumber 15 = .ok (.iconst 2, 1) := by decide +kernel
theorem dX3_renumber_16 : decode cX3_renumber 16 = .ok (.iadd, 1) := by decide +kernel
theorem dX3_renumber_17 : decode cX3_renumber 17 = .ok (.iload_n 2, 1) := by decide +kernel
theorem dX3_renumber_18 : decode cX3_renumber 18 = .ok (.invokestatic 36, 3) := by decide +kernel
theorem dX3_renumber_21 : decode cX3_renumber 21 = .ok (.iload_n 3, 1) := by decide +kernel
theorem dX3_renumber_22 : decode cX3_renumber 22 = .ok (.ireturn, 1) := by decide +kernel
theorem dX3_retell_0 : decode cX3_retell 0 = .ok (.aload_n 0, 1) := by decide +kernel
theorem dX3_retell_1 : decode cX3_retell 1 = .ok (.iload_n 1, 1) := by decide +kernel
theorem dX3_retell_2 : decode cX3_retell 2 = .ok (.invokevirtual 48, 3) := by decide +kernel
theorem dX3_retell_5 : decode cX3_retell 5 = .ok (.istore_n 3, 1) := by decide +kernel
theorem dX3_retell_6 : decode cX3_retell 6 = .ok (.aload_n 0, 1) := by decide +kernel
theorem dX3_retell_7 : decode cX3_retell 7 = .ok (.getfield 15, 3) := by decide +kernel
theorem dX3_retell_10 : decode cX3_retell 10 = .ok (.iload_n 1, 1) := by decide +kernel
theorem dX3_retell_11 : decode cX3_retell 11 = .ok (.iload_n 2, 1) := by decide +kernel
theorem dX3_retell_12 : decode cX3_retell 12 = .ok (.invokestatic 36, 3) := by decide +kernel
theorem dX3_retell_15 : decode cX3_retell 15 = .ok (.iload_n 3, 1) := by decide +kernel
theorem dX3_retell_16 : decode cX3_retell 16 = .ok (.ireturn, 1) := by decide +kernel
theorem dX3_shortest_0 : decode cX3_shortest 0 = .ok (.aload_n 0, 1) := by decide +kernel
theorem dX3_shortest_1 : decode cX3_shortest 1 = .ok (.iload_n 1, 1) := by decide +kernel
theorem dX3_shortest_2 : decode cX3_shortest 2 = .ok (.iconst 1, 1) := by decide +kernel
theorem dX3_shortest_3 : decode cX3_shortest 3 = .ok (.invokevirtual 44, 3) := by decide +kernel
theorem dX3_shortest_6 : decode cX3_shortest 6 = .ok (.tableswitch 54 2 6 #[34, 38, 54, 36, 38], 34) := by decide +kernel
theorem dX3_shortest_40 : decode cX3_shortest 40 = .ok (.iconst 0, 1) := by decide +kernel
theorem dX3_shortest_41 : decode cX3_shortest 41 = .ok (.ireturn, 1) := by decide +kernel
theorem dX3_shortest_42 : decode cX3_shortest 42 = .ok (.iconst 1, 1) := by decide +kernel
theorem dX3_shortest_43 : decode cX3_shortest 43 = .ok (.ireturn, 1) := by decide +kernel
theorem dX3_shortest_44 : decode cX3_shortest 44 = .ok (.aload_n 0, 1) := by decide +kernel
theorem dX3_shortest_45 : decode cX3_shortest 45 = .ok (.iload_n 1, 1) := by decide +kernel
theorem dX3_shortest_46 : decode cX3_shortest 46 = .ok (.iload_n 2, 1) := by decide +kernel
theorem dX3_shortest_47 : decode cX3_shortest 47 = .ok (.invokevirtual 63, 3) := by decide +kernel
theorem dX3_shortest_50 : decode cX3_shortest 50 = .ok (.aload_n 0, 1) := by decide +kernel
theorem dX3_shortest_51 : decode cX3_shortest 51 = .ok (.iload_n 1, 1) := by decide +kernel
theorem dX3_shortest_52 : decode cX3_shortest 52 = .ok (.iload_n 2, 1) := by decide +kernel
theorem dX3_shortest_53 : decode cX3_shortest 53 = .ok (.invokevirtual 66, 3) := by decide +kernel
theorem dX3_shortest_56 : decode cX3_shortest 56 = .ok (.invokestatic 69, 3) := by decide +kernel
theorem dX3_shortest_59 : decode cX3_shortest 59 = .ok (.ireturn, 1) := by decide +kernel
theorem dX3_shortest_60 : decode cX3_shortest 60 = .ok (.aload_n 0, 1) := by decide +kernel
theorem dX3_shortest_61 : decode cX3_shortest 61 = .ok (.iload_n 1, 1) := by decide +kernel
theorem dX3_shortest_62 : decode cX3_shortest 62 = .ok (.iload_n 2, 1) := by decide +kernel
theorem dX3_shortest_63 : decode cX3_shortest 63 = .ok (.invokevirtual 63, 3) := by decide +kernel
theorem dX3_shortest_66 : decode cX3_shortest 66 = .ok (.ireturn, 1) := by decide +kernel
theorem dX3_size_0 : decode cX3_size 0 = .ok (.aload_n 0, 1) := by decide +kernel
theorem dX3_size_1 : decode cX3_size 1 = .ok (.getfield 21, 3) := by decide +kernel
theorem dX3_size_4 : decode cX3_size 4 = .ok (.ireturn, 1) := by decide +kernel
theorem dX3_spreadInLands_0 : decode cX3_spreadInLands 0 = .ok (.iload_n 1, 1) := by decide +kernel
theorem dX3_spreadInLands_1 : decode cX3_spreadInLands 1 = .ok (.istore_n 3, 1) := by decide +kernel
theorem dX3_spreadInLands_2 : decode cX3_spreadInLands 2 = .ok (.iconst 0, 1) := by decide +kernel
theorem dX3_spreadInLands_3 : decode cX3_spreadInLands 3 = .ok (.istore 4, 2) := by decide +kernel
theorem dX3_spreadInLands_5 : decode cX3_spreadInLands 5 = .ok (.iload 4, 2) := by decide +kernel
theorem dX3_spreadInLands_7 : decode cX3_spreadInLands 7 = .ok (.aload_n 0, 1) := by decide +kernel
theorem dX3_spreadInLands_8 : decode cX3_spreadInLands 8 = .ok (.getfield 21, 3) := by decide +kernel
theorem dX3_spreadInLands_11 : decode cX3_spreadInLands 11 = .ok (.if_icmp .ge 61, 3) := by decide +kernel
theorem dX3_spreadInLands_14 : decode cX3_spreadInLands 14 = .ok (.aload_n 0, 1) := by decide +kernel
theorem dX3_spreadInLands_15 : decode cX3_spreadInLands 15 = .ok (.iload 4, 2) := by decide +kernel
theorem dX3_spreadInLands_17 : decode cX3_spreadInLands 17 = .ok (.iconst 5, 1) := by decide +kernel
theorem dX3_spreadInLands_18 : decode cX3_spreadInLands 18 = .ok (.invokevirtual 44, 3) := by decide +kernel
theorem dX3_spreadInLands_21 : decode cX3_spreadInLands 21 = .ok (.istore 5, 2) := by decide +kernel
theorem dX3_spreadInLands_23 : decode cX3_spreadInLands 23 = .ok (.iload 5, 2) := by decide +kernel
theorem dX3_spreadInLands_25 : decode cX3_spreadInLands 25 = .ok (.iconst (-1), 1) := by decide +kernel
theorem dX3_spreadInLands_26 : decode cX3_spreadInLands 26 = .ok (.if_icmp .eq 40, 3) := by decide +kernel
theorem dX3_spreadInLands_29 : decode cX3_spreadInLands 29 = .ok (.aload_n 0, 1) := by decide +kernel
theorem dX3_spreadInLands_30 : decode cX3_spreadInLands 30 = .ok (.iload 4, 2) := by decide +kernel
theorem dX3_spreadInLands_32 : decode cX3_spreadInLands 32 = .ok (.iload_n 2, 1) := by decide +kernel
theorem dX3_spreadInLands_33 : decode cX3_spreadInLands 33 = .ok (.invokevirtual 55, 3) := by decide +kernel
theorem dX3_spreadInLands_36 : decode cX3_spreadInLands 36 = .ok (.ifCond .eq 30, 3) := by decide +kernel
theorem dX3_spreadInLands_39 : decode cX3_spreadInLands 39 = .ok (.iconst 1, 1) := by decide +kernel
theorem dX3_spreadInLands_40 : decode cX3_spreadInLands 40 = .ok (.iload 4, 2) := by decide +kernel
theorem dX3_spreadInLands_42 : decode cX3_spreadInLands 42 = .ok (.ishl, 1) := by decide +kernel
theorem dX3_spreadInLands_43 : decode cX3_spreadInLands 43 = .ok (.iconst 1, 1) := by decide +kernel
theorem dX3_spreadInLands_44 : decode cX3_spreadInLands 44 = .ok (.iload 5, 2) := by decide +kernel
theorem dX3_spreadInLands_46 : decode cX3_spreadInLands 46 = .ok (.ishl, 1) := by decide +kernel
theorem dX3_spreadInLands_47 : decode cX3_spreadInLands 47 = .ok (.ior, 1) := by decide +kernel
theorem dX3_spreadInLands_48 : decode cX3_spreadInLands 48 = .ok (.istore 6, 2) := by decide +kernel
theorem dX3_spreadInLands_50 : decode cX3_spreadInLands 50 = .ok (.iload_n 3, 1) := by decide +kernel
theorem dX3_spreadInLands_51 : decode cX3_spreadInLands 51 = .ok (.iload_n 3, 1) := by decide +kernel
theorem dX3_spreadInLands_52 : decode cX3_spreadInLands 52 = .ok (.iload 6, 2) := by decide +kernel
theorem dX3_spreadInLands_54 : decode cX3_spreadInLands 54 = .ok (.iand, 1) := by decide +kernel
theorem dX3_spreadInLands_55 : decode cX3_spreadInLands 55 = .ok (.ifCond .eq 8, 3) := by decide +kernel
theorem dX3_spreadInLands_58 : decode cX3_spreadInLands 58 = .ok (.iload 6, 2) := by decide +kernel
theorem dX3_spreadInLands_60 : decode cX3_spreadInLands 60 = .ok (.goto 4, 3) := by decide +kernel
theorem dX3_spreadInLands_63 : decode cX3_spreadInLands 63 = .ok (.iconst 0, 1) := by decide +kernel
theorem dX3_spreadInLands_64 : decode cX3_spreadInLands 64 = .ok (.ior, 1) := by decide +kernel
theorem dX3_spreadInLands_65 : decode cX3_spreadInLands 65 = .ok (.istore_n 3, 1) := by decide +kernel
theorem dX3_spreadInLands_66 : decode cX3_spreadInLands 66 = .ok (.iinc 4 1, 3) := by decide +kernel
theorem dX3_spreadInLands_69 : decode cX3_spreadInLands 69 = .ok (.goto (-64), 3) := by decide +kernel
theorem dX3_spreadInLands_72 : decode cX3_spreadInLands 72 = .ok (.iload_n 3, 1) := by decide +kernel
theorem dX3_spreadInLands_73 : decode cX3_spreadInLands 73 = .ok (.ireturn, 1) := by decide +kernel
theorem dX3_toldYear_0 : decode cX3_toldYear 0 = .ok (.aload_n 0, 1) := by decide +kernel
theorem dX3_toldYear_1 : decode cX3_toldYear 1 = .ok (.getfield 15, 3) := by decide +kernel
theorem dX3_toldYear_4 : decode cX3_toldYear 4 = .ok (.iload_n 1, 1) := by decide +kernel
theorem dX3_toldYear_5 : decode cX3_toldYear 5 = .ok (.invokestatic 28, 3) := by decide +kernel
theorem dX3_toldYear_8 : decode cX3_toldYear 8 = .ok (.ireturn, 1) := by decide +kernel
theorem dX4_init_0 : decode cX4_init 0 = .ok (.aload_n 0, 1) := by decide +kernel
theorem dX4_init_1 : decode cX4_init 1 = .ok (.invokespecial 3, 3) := by decide +kernel
theorem dX4_init_4 : decode cX4_init 4 = .ok (.aload_n 0, 1) := by decide +kernel
theorem dX4_init_5 : decode cX4_init 5 = .ok (.sipush 360, 3) := by decide +kernel
theorem dX4_init_8 : decode cX4_init 8 = .ok (.newarray .int, 2) := by decide +kernel
theorem dX4_init_10 : decode cX4_init 10 = .ok (.putfield 9, 3) := by decide +kernel
theorem dX4_init_13 : decode cX4_init 13 = .ok (.aload_n 0, 1) := by decide +kernel
theorem dX4_init_14 : decode cX4_init 14 = .ok (.bipush 6, 2) := by decide +kernel
theorem dX4_init_16 : decode cX4_init 16 = .ok (.newarray .int, 2) := by decide +kernel
theorem dX4_init_18 : decode cX4_init 18 = .ok (.putfield 15, 3) := by decide +kernel
theorem dX4_init_21 : decode cX4_init 21 = .ok (.aload_n 0, 1) := by decide +kernel
theorem dX4_init_22 : decode cX4_init 22 = .ok (.iconst 0, 1) := by decide +kernel
theorem dX4_init_23 : decode cX4_init 23 = .ok (.putfield 18, 3) := by decide +kernel
theorem dX4_init_26 : decode cX4_init 26 = .ok (.return_, 1) := by decide +kernel
theorem dX4_isFull_0 : decode cX4_isFull 0 = .ok (.aload_n 0, 1) := by decide +kernel
theorem dX4_isFull_1 : decode cX4_isFull 1 = .ok (.getfield 18, 3) := by decide +kernel
theorem dX4_isFull_4 : decode cX4_isFull 4 = .ok (.bipush 6, 2) := by decide +kernel
theorem dX4_isFull_6 : decode cX4_isFull 6 = .ok (.if_icmp .lt 7, 3) := by decide +kernel
theorem dX4_isFull_9 : decode cX4_isFull 9 = .ok (.iconst 1, 1) := by decide +kernel
theorem dX4_isFull_10 : decode cX4_isFull 10 = .ok (.goto 4, 3) := by decide +kernel
theorem dX4_isFull_13 : decode cX4_isFull 13 = .ok (.iconst 0, 1) := by decide +kernel
theorem dX4_isFull_14 : decode cX4_isFull 14 = .ok (.ireturn, 1) := by decide +kernel
theorem dX4_learn_0 : decode cX4_learn 0 = .ok (.iconst 0, 1) := by decide +kernel
theorem dX4_learn_1 : decode cX4_learn 1 = .ok (.istore_n 2, 1) := by decide +kernel
theorem dX4_learn_2 : decode cX4_learn 2 = .ok (.iload_n 2, 1) := by decide +kernel
theorem dX4_learn_3 : decode cX4_learn 3 = .ok (.aload_n 1, 1) := by decide +kernel
theorem dX4_learn_4 : decode cX4_learn 4 = .ok (.invokevirtual 22, 3) := by decide +kernel
theorem dX4_learn_7 : decode cX4_learn 7 = .ok (.if_icmp .ge 30, 3) := by decide +kernel
theorem dX4_learn_10 : decode cX4_learn 10 = .ok (.aload_n 0, 1) := by decide +kernel
theorem dX4_learn_11 : decode cX4_learn 11 = .ok (.getfield 9, 3) := by decide +kernel
theorem dX4_learn_14 : decode cX4_learn 14 = .ok (.aload_n 0, 1) := by decide +kernel
theorem dX4_learn_15 : decode cX4_learn 15 = .ok (.getfield 18, 3) := by decide +kernel
theorem dX4_learn_18 : decode cX4_learn 18 = .ok (.bipush 60, 2) := by decide +kernel
theorem dX4_learn_20 : decode cX4_learn 20 = .ok (.imul, 1) := by decide +kernel
theorem dX4_learn_21 : decode cX4_learn 21 = .ok (.iload_n 2, 1) := by decide +kernel
theorem dX4_learn_22 : decode cX4_learn 22 = .ok (.iadd, 1) := by decide +kernel
theorem dX4_learn_23 : decode cX4_learn 23 = .ok (.aload_n 1, 1) := by decide +kernel
theorem dX4_learn_24 : decode cX4_learn 24 = .ok (.iload_n 2, 1) := by decide +kernel
theorem dX4_learn_25 : decode cX4_learn 25 = .ok (.invokevirtual 27, 3) := by decide +kernel
theorem dX4_learn_28 : decode cX4_learn 28 = .ok (.invokestatic 31, 3) := by decide +kernel
theorem dX4_learn_31 : decode cX4_learn 31 = .ok (.iinc 2 1, 3) := by decide +kernel
theorem dX4_learn_34 : decode cX4_learn 34 = .ok (.goto (-32), 3) := by decide +kernel
theorem dX4_learn_37 : decode cX4_learn 37 = .ok (.aload_n 0, 1) := by decide +kernel
theorem dX4_learn_38 : decode cX4_learn 38 = .ok (.getfield 15, 3) := by decide +kernel
theorem dX4_learn_41 : decode cX4_learn 41 = .ok (.aload_n 0, 1) := by decide +kernel
theorem dX4_learn_42 : decode cX4_learn 42 = .ok (.getfield 18, 3) := by decide +kernel
theorem dX4_learn_45 : decode cX4_learn 45 = .ok (.aload_n 1, 1) := by decide +kernel
theorem dX4_learn_46 : decode cX4_learn 46 = .ok (.invokevirtual 22, 3) := by decide +kernel
theorem dX4_learn_49 : decode cX4_learn 49 = .ok (.invokestatic 31, 3) := by decide +kernel
theorem dX4_learn_52 : decode cX4_learn 52 = .ok (.aload_n 0, 1) := by decide +kernel
theorem dX4_learn_53 : decode cX4_learn 53 = .ok (.dup, 1) := by decide +kernel
theorem dX4_learn_54 : decode cX4_learn 54 = .ok (.getfield 18, 3) := by decide +kernel
theorem dX4_learn_57 : decode cX4_learn 57 = .ok (.iconst 1, 1) := by decide +kernel
theorem dX4_learn_58 : decode cX4_learn 58 = .ok (.iadd, 1) := by decide +kernel
theorem dX4_learn_59 : decode cX4_learn 59 = .ok (.putfield 18, 3) := by decide +kernel
theorem dX4_learn_62 : decode cX4_learn 62 = .ok (.aload_n 0, 1) := by decide +kernel
theorem dX4_learn_63 : decode cX4_learn 63 = .ok (.getfield 18, 3) := by decide +kernel
theorem dX4_learn_66 : decode cX4_learn 66 = .ok (.ireturn, 1) := by decide +kernel
theorem dX4_says_0 : decode cX4_says 0 = .ok (.aload_n 0, 1) := by decide +kernel
theorem dX4_says_1 : decode cX4_says 1 = .ok (.getfield 18, 3) := by decide +kernel
theorem dX4_says_4 : decode cX4_says 4 = .ok (.iconst 1, 1) := by decide +kernel
theorem dX4_says_5 : decode cX4_says 5 = .ok (.isub, 1) := by decide +kernel
theorem dX4_says_6 : decode cX4_says 6 = .ok (.istore 4, 2) := by decide +kernel
theorem dX4_says_8 : decode cX4_says 8 = .ok (.iload 4, 2) := by decide +kernel
theorem dX4_says_10 : decode cX4_says 10 = .ok (.ifCond .lt 83, 3) := by decide +kernel
theorem dX4_says_13 : decode cX4_says 13 = .ok (.iload 4, 2) := by decide +kernel
theorem dX4_says_15 : decode cX4_says 15 = .ok (.bipush 60, 2) := by decide +kernel
theorem dX4_says_17 : decode cX4_says 17 = .ok (.imul, 1) := by decide +kernel
theorem dX4_says_18 : decode cX4_says 18 = .ok (.istore 5, 2) := by decide +kernel
theorem dX4_says_20 : decode cX4_says 20 = .ok (.aload_n 0, 1) := by decide +kernel
theorem dX4_says_21 : decode cX4_says 21 = .ok (.getfield 9, 3) := by decide +kernel
theorem dX4_says_24 : decode cX4_says 24 = .ok (.iload 5, 2) := by decide +kernel
theorem dX4_says_26 : decode cX4_says 26 = .ok (.invokestatic 35, 3) := by decide +kernel
theorem dX4_says_29 : decode cX4_says 29 = .ok (.iload_n 1, 1) := by decide +kernel
theorem dX4_says_30 : decode cX4_says 30 = .ok (.if_icmp .ne 34, 3) := by decide +kernel
theorem dX4_says_33 : decode cX4_says 33 = .ok (.aload_n 2, 1) := by decide +kernel
theorem dX4_says_34 : decode cX4_says 34 = .ok (.aload_n 0, 1) := by decide +kernel
theorem dX4_says_35 : decode cX4_says 35 = .ok (.getfield 9, 3) := by decide +kernel
theorem dX4_says_38 : decode cX4_says 38 = .ok (.iload 5, 2) := by decide +kernel
theorem dX4_says_40 : decode cX4_says 40 = .ok (.iconst 4, 1) := by decide +kernel
theorem dX4_says_41 : decode cX4_says 41 = .ok (.iadd, 1) := by decide +kernel
theorem dX4_says_42 : decode cX4_says 42 = .ok (.iload 5, 2) := by decide +kernel
theorem dX4_says_44 : decode cX4_says 44 = .ok (.aload_n 0, 1) := by decide +kernel
theorem dX4_says_45 : decode cX4_says 45 = .ok (.getfield 15, 3) := by decide +kernel
theorem dX4_says_48 : decode cX4_says 48 = .ok (.iload 4, 2) := by decide +kernel
theorem dX4_says_50 : decode cX4_says 50 = .ok (.invokestatic 35, 3) := by decide +kernel
theorem dX4_says_53 : decode cX4_says 53 = .ok (.iadd, 1) := by decide +kernel
theorem dX4_says_54 : decode cX4_says 54 = .ok (.invokevirtual 39, 3) := by decide +kernel
theorem dX4_says_57 : decode cX4_says 57 = .ok (.ifCond .eq 7, 3) := by decide +kernel
theorem dX4_says_60 : decode cX4_says 60 = .ok (.iconst 1, 1) := by decide +kernel
theorem dX4_says_61 : decode cX4_says 61 = .ok (.goto 4, 3) := by decide +kernel
theorem dX4_says_64 : decode cX4_says 64 = .ok (.iconst 0, 1) := by decide +kernel
theorem dX4_says_65 : decode cX4_says 65 = .ok (.istore 6, 2) := by decide +kernel
theorem dX4_says_67 : decode cX4_says 67 = .ok (.iload 6, 2) := by decide +kernel
theorem dX4_says_69 : decode cX4_says 69 = .ok (.ifCond .eq 18, 3) := by decide +kernel
theorem dX4_says_72 : decode cX4_says 72 = .ok (.aload_n 0, 1) := by decide +kernel
theorem dX4_says_73 : decode cX4_says 73 = .ok (.getfield 9, 3) := by decide +kernel
theorem dX4_says_76 : decode cX4_says 76 = .ok (.iload 5, 2) := by decide +kernel
theorem dX4_says_78 : decode cX4_says 78 = .ok (.iconst 2, 1) := by decide +kernel
theorem dX4_says_79 : decode cX4_says 79 = .ok (.iadd, 1) := by decide +kernel
theorem dX4_says_80 : decode cX4_says 80 = .ok (.invokestatic 35, 3) := by decide +kernel
theorem dX4_says_83 : decode cX4_says 83 = .ok (.bipush 48, 2) := by decide +kernel
theorem dX4_says_85 : decode cX4_says 85 = .ok (.isub, 1) := by decide +kernel
theorem dX4_says_86 : decode cX4_says 86 = .ok (.ireturn, 1) := by decide +kernel
theorem dX4_says_87 : decode cX4_says 87 = .ok (.iinc 4 (-1), 3) := by decide +kernel
theorem dX4_says_90 : decode cX4_says 90 = .ok (.goto (-82), 3) := by decide +kernel
theorem dX4_says_93 : decode cX4_says 93 = .ok (.iload_n 3, 1) := by decide +kernel
theorem dX4_says_94 : decode cX4_says 94 = .ok (.ireturn, 1) := by decide +kernel
theorem dX4_size_0 : decode cX4_size 0 = .ok (.aload_n 0, 1) := by decide +kernel
theorem dX4_size_1 : decode cX4_size 1 = .ok (.getfield 18, 3) := by decide +kernel
theorem dX4_size_4 : decode cX4_size 4 = .ok (.ireturn, 1) := by decide +kernel
theorem dX4_unlearn_0 : decode cX4_unlearn 0 = .ok (.aload_n 0, 1) := by decide +kernel
theorem dX4_unlearn_1 : decode cX4_unlearn 1 = .ok (.dup, 1) := by decide +kernel
theorem dX4_unlearn_2 : decode cX4_unlearn 2 = .ok (.getfield 18, 3) := by decide +kernel
theorem dX4_unlearn_5 : decode cX4_unlearn 5 = .ok (.iconst 1, 1) := by decide +kernel
theorem dX4_unlearn_6 : decode cX4_unlearn 6 = .ok (.isub, 1) := by decide +kernel
theorem dX4_unlearn_7 : decode cX4_unlearn 7 = .ok (.putfield 18, 3) := by decide +kernel
theorem dX4_unlearn_10 : decode cX4_unlearn 10 = .ok (.aload_n 0, 1) := by decide +kernel
theorem dX4_unlearn_11 : decode cX4_unlearn 11 = .ok (.getfield 18, 3) := by decide +kernel
theorem dX4_unlearn_14 : decode cX4_unlearn 14 = .ok (.ireturn, 1) := by decide +kernel
theorem dX5_begin_0 : decode cX5_begin 0 = .ok (.aload_n 0, 1) := by decide +kernel
theorem dX5_begin_1 : decode cX5_begin 1 = .ok (.dup, 1) := by decide +kernel
theorem dX5_begin_2 : decode cX5_begin 2 = .ok (.getfield 24, 3) := by decide +kernel
theorem dX5_begin_5 : decode cX5_begin 5 = .ok (.iconst 1, 1) := by decide +kernel
theorem dX5_begin_6 : decode cX5_begin 6 = .ok (.lshl, 1) := by decide +kernel
theorem dX5_begin_7 : decode cX5_begin 7 = .ok (.putfield 24, 3) := by decide +kernel
theorem dX5_begin_10 : decode cX5_begin 10 = .ok (.aload_n 0, 1) := by decide +kernel
theorem dX5_begin_11 : decode cX5_begin 11 = .ok (.aload_n 0, 1) := by decide +kernel
theorem dX5_begin_12 : decode cX5_begin 12 = .ok (.getfield 28, 3) := by decide +kernel
theorem dX5_begin_15 : decode cX5_begin 15 = .ok (.iconst 1, 1) := by decide +kernel
theorem dX5_begin_16 : decode cX5_begin 16 = .ok (.lshl, 1) := by decide +kernel
theorem dX5_begin_17 : decode cX5_begin 17 = .ok (.lconst 1, 1) := by decide +kernel
theorem dX5_begin_18 : decode cX5_begin 18 = .ok (.lor, 1) := by decide +kernel
theorem dX5_begin_19 : decode cX5_begin 19 = .ok (.putfield 28, 3) := by decide +kernel
theorem dX5_begin_22 : decode cX5_begin 22 = .ok (.aload_n 0, 1) := by decide +kernel
theorem dX5_begin_23 : decode cX5_begin 23 = .ok (.dup, 1) := by decide +kernel
theorem dX5_begin_24 : decode cX5_begin 24 = .ok (.getfield 31, 3) := by decide +kernel
theorem dX5_begin_27 : decode cX5_begin 27 = .ok (.iconst 1, 1) := by decide +kernel
theorem dX5_begin_28 : decode cX5_begin 28 = .ok (.lshl, 1) := by decide +kernel
theorem dX5_begin_29 : decode cX5_begin 29 = .ok (.putfield 31, 3) := by decide +kernel
theorem dX5_begin_32 : decode cX5_begin 32 = .ok (.return_, 1) := by decide +kernel
theorem dX5_compared_0 : decode cX5_compared 0 = .ok (.iload_n 1, 1) := by decide +kernel
theorem dX5_compared_1 : decode cX5_compared 1 = .ok (.lookupswitch 49 #[(60, 27), (62, 38)], 27) := by decide +kernel
theorem dX5_compared_28 : decode cX5_compared 28 = .ok (.iload_n 0, 1) := by decide +kernel
theorem dX5_compared_29 : decode cX5_compared 29 = .ok (.iload_n 2, 1) := by decide +kernel
theorem dX5_compared_30 : decode cX5_compared 30 = .ok (.if_icmp .ge 7, 3) := by decide +kernel
theorem dX5_compared_33 : decode cX5_compared 33 = .ok (.lconst 1, 1) := by decide +kernel
theorem dX5_compared_34 : decode cX5_compared 34 = .ok (.goto 4, 3) := by decide +kernel
theorem dX5_compared_37 : decode cX5_compared 37 = .ok (.lconst 0, 1) := by decide +kernel
theorem dX5_compared_38 : decode cX5_compared 38 = .ok (.lreturn, 1) := by decide +kernel
theorem dX5_compared_39 : decode cX5_compared 39 = .ok (.iload_n 0, 1) := by decide +kernel
theorem dX5_compared_40 : decode cX5_compared 40 = .ok (.iload_n 2, 1) := by decide +kernel
theorem dX5_compared_41 : decode cX5_compared 41 = .ok (.if_icmp .le 7, 3) := by decide +kernel
theorem dX5_compared_44 : decode cX5_compared 44 = .ok (.lconst 1, 1) := by decide +kernel
theorem dX5_compared_45 : decode cX5_compared 45 = .ok (.goto 4, 3) := by decide +kernel
theorem dX5_compared_48 : decode cX5_compared 48 = .ok (.lconst 0, 1) := by decide +kernel
theorem dX5_compared_49 : decode cX5_compared 49 = .ok (.lreturn, 1) := by decide +kernel
theorem dX5_compared_50 : decode cX5_compared 50 = .ok (.iload_n 0, 1) := by decide +kernel
theorem dX5_compared_51 : decode cX5_compared 51 = .ok (.iload_n 2, 1) := by decide +kernel
theorem dX5_compared_52 : decode cX5_compared 52 = .ok (.if_icmp .ne 7, 3) := by decide +kernel
theorem dX5_compared_55 : decode cX5_compared 55 = .ok (.lconst 1, 1) := by decide +kernel
theorem dX5_compared_56 : decode cX5_compared 56 = .ok (.goto 4, 3) := by decide +kernel
theorem dX5_compared_59 : decode cX5_compared 59 = .ok (.lconst 0, 1) := by decide +kernel
theorem dX5_compared_60 : decode cX5_compared 60 = .ok (.lreturn, 1) := by decide +kernel
theorem dX5_end_0 : decode cX5_end 0 = .ok (.aload_n 0, 1) := by decide +kernel
theorem dX5_end_1 : decode cX5_end 1 = .ok (.getfield 24, 3) := by decide +kernel
theorem dX5_end_4 : decode cX5_end 4 = .ok (.aload_n 0, 1) := by decide +kernel
theorem dX5_end_5 : decode cX5_end 5 = .ok (.getfield 28, 3) := by decide +kernel
theorem dX5_end_8 : decode cX5_end 8 = .ok (.lor, 1) := by decide +kernel
theorem dX5_end_9 : decode cX5_end 9 = .ok (.lconst 1, 1) := by decide +kernel
theorem dX5_end_10 : decode cX5_end 10 = .ok (.land, 1) := by decide +kernel
theorem dX5_end_11 : decode cX5_end 11 = .ok (.lstore_n 1, 1) := by decide +kernel
theorem dX5_end_12 : decode cX5_end 12 = .ok (.aload_n 0, 1) := by decide +kernel
theorem dX5_end_13 : decode cX5_end 13 = .ok (.dup, 1) := by decide +kernel
theorem dX5_end_14 : decode cX5_end 14 = .ok (.getfield 24, 3) := by decide +kernel
theorem dX5_end_17 : decode cX5_end 17 = .ok (.iconst 1, 1) := by decide +kernel
theorem dX5_end_18 : decode cX5_end 18 = .ok (.lushr, 1) := by decide +kernel
theorem dX5_end_19 : decode cX5_end 19 = .ok (.putfield 24, 3) := by decide +kernel
theorem dX5_end_22 : decode cX5_end 22 = .ok (.aload_n 0, 1) := by decide +kernel
theorem dX5_end_23 : decode cX5_end 23 = .ok (.dup, 1) := by decide +kernel
theorem dX5_end_24 : decode cX5_end 24 = .ok (.getfield 28, 3) := by decide +kernel
theorem dX5_end_27 : decode cX5_end 27 = .ok (.iconst 1, 1) := by decide +kernel
theorem dX5_end_28 : decode cX5_end 28 = .ok (.lushr, 1) := by decide +kernel
theorem dX5_end_29 : decode cX5_end 29 = .ok (.putfield 28, 3) := by decide +kernel
theorem dX5_end_32 : decode cX5_end 32 = .ok (.aload_n 0, 1) := by decide +kernel
theorem dX5_end_33 : decode cX5_end 33 = .ok (.dup, 1) := by decide +kernel
theorem dX5_end_34 : decode cX5_end 34 = .ok (.getfield 31, 3) := by decide +kernel
theorem dX5_end_37 : decode cX5_end 37 = .ok (.iconst 1, 1) := by decide +kernel
theorem dX5_end_38 : decode cX5_end 38 = .ok (.lushr, 1) := by decide +kernel
theorem dX5_end_39 : decode cX5_end 39 = .ok (.putfield 31, 3) := by decide +kernel
theorem dX5_end_42 : decode cX5_end 42 = .ok (.lload_n 1, 1) := by decide +kernel
theorem dX5_end_43 : decode cX5_end 43 = .ok (.lreturn, 1) := by decide +kernel
theorem dX5_init_0 : decode cX5_init 0 = .ok (.aload_n 0, 1) := by decide +kernel
theorem dX5_init_1 : decode cX5_init 1 = .ok (.invokespecial 3, 3) := by decide +kernel
theorem dX5_init_4 : decode cX5_init 4 = .ok (.return_, 1) := by decide +kernel
theorem dX5_meets_0 : decode cX5_meets 0 = .ok (.aload_n 0, 1) := by decide +kernel
theorem dX5_meets_1 : decode cX5_meets 1 = .ok (.lconst 0, 1) := by decide +kernel
theorem dX5_meets_2 : decode cX5_meets 2 = .ok (.putfield 24, 3) := by decide +kernel
theorem dX5_meets_5 : decode cX5_meets 5 = .ok (.aload_n 0, 1) := by decide +kernel
theorem dX5_meets_6 : decode cX5_meets 6 = .ok (.lconst 1, 1) := by decide +kernel
theorem dX5_meets_7 : decode cX5_meets 7 = .ok (.putfield 28, 3) := by decide +kernel
theorem dX5_meets_10 : decode cX5_meets 10 = .ok (.aload_n 0, 1) := by decide +kernel
theorem dX5_meets_11 : decode cX5_meets 11 = .ok (.lconst 0, 1) := by decide +kernel
theorem dX5_meets_12 : decode cX5_meets 12 = .ok (.putfield 31, 3) := by decide +kernel
theorem dX5_meets_15 : decode cX5_meets 15 = .ok (.iload_n 2, 1) := by decide +kernel
theorem dX5_meets_16 : decode cX5_meets 16 = .ok (.istore 4, 2) := by decide +kernel
theorem dX5_meets_18 : decode cX5_meets 18 = .ok (.iload 4, 2) := by decide +kernel
theorem dX5_meets_20 : decode cX5_meets 20 = .ok (.iload_n 3, 1) := by decide +kernel
theorem dX5_meets_21 : decode cX5_meets 21 = .ok (.if_icmp .ge 207, 3) := by decide +kernel
theorem dX5_meets_24 : decode cX5_meets 24 = .ok (.aload_n 1, 1) := by decide +kernel
theorem dX5_meets_25 : decode cX5_meets 25 = .ok (.iload 4, 2) := by decide +kernel
theorem dX5_meets_27 : decode cX5_meets 27 = .ok (.invokestatic 34, 3) := by decide +kernel
theorem dX5_meets_30 : decode cX5_meets 30 = .ok (.istore 5, 2) := by decide +kernel
theorem dX5_meets_32 : decode cX5_meets 32 = .ok (.iload 5, 2) := by decide +kernel
theorem dX5_meets_34 : decode cX5_meets 34 = .ok (.lookupswitch 188 #[(33, 66), (40, 79), (41, 86), (60, 125), (61, 125), (62, 125), (124, 97)], 66) := by decide +kernel
theorem dX5_meets_100 : decode cX5_meets 100 = .ok (.aload_n 0, 1) := by decide +kernel
theorem dX5_meets_101 : decode cX5_meets 101 = .ok (.dup, 1) := by decide +kernel
theorem dX5_meets_102 : decode cX5_meets 102 = .ok (.getfield 31, 3) := by decide +kernel
theorem dX5_meets_105 : decode cX5_meets 105 = .ok (.lconst 1, 1) := by decide +kernel
theorem dX5_meets_106 : decode cX5_meets 106 = .ok (.lxor, 1) := by decide +kernel
theorem dX5_meets_107 : decode cX5_meets 107 = .ok (.putfield 31, 3) := by decide +kernel
theorem dX5_meets_110 : decode cX5_meets 110 = .ok (.goto 112, 3) := by decide +kernel
theorem dX5_meets_113 : decode cX5_meets 113 = .ok (.aload_n 0, 1) := by decide +kernel
theorem dX5_meets_114 : decode cX5_meets 114 = .ok (.invokevirtual 38, 3) := by decide +kernel
theorem dX5_meets_117 : decode cX5_meets 117 = .ok (.goto 105, 3) := by decide +kernel
theorem dX5_meets_120 : decode cX5_meets 120 = .ok (.aload_n 0, 1) := by decide +kernel
theorem dX5_meets_121 : decode cX5_meets 121 = .ok (.aload_n 0, 1) := by decide +kernel
theorem dX5_meets_122 : decode cX5_meets 122 = .ok (.invokevirtual 41, 3) := by decide +kernel
theorem dX5_meets_125 : decode cX5_meets 125 = .ok (.invokevirtual 45, 3) := by decide +kernel
theorem dX5_meets_128 : decode cX5_meets 128 = .ok (.goto 94, 3) := by decide +kernel
theorem dX5_meets_131 : decode cX5_meets 131 = .ok (.aload_n 0, 1) := by decide +kernel
theorem dX5_meets_132 : decode cX5_meets 132 = .ok (.dup, 1) := by decide +kernel
theorem dX5_meets_133 : decode cX5_meets 133 = .ok (.getfield 24, 3) := by decide +kernel
theorem dX5_meets_136 : decode cX5_meets 136 = .ok (.aload_n 0, 1) := by decide +kernel
theorem dX5_meets_137 : decode cX5_meets 137 = .ok (.getfield 28, 3) := by decide +kernel
theorem dX5_meets_140 : decode cX5_meets 140 = .ok (.lconst 1, 1) := by decide +kernel
theorem dX5_meets_141 : decode cX5_meets 141 = .ok (.land, 1) := by decide +kernel
theorem dX5_meets_142 : decode cX5_meets 142 = .ok (.lor, 1) := by decide +kernel
theorem dX5_meets_143 : decode cX5_meets 143 = .ok (.putfield 24, 3) := by decide +kernel
theorem dX5_meets_146 : decode cX5_meets 146 = .ok (.aload_n 0, 1) := by decide +kernel
theorem dX5_meets_147 : decode cX5_meets 147 = .ok (.dup, 1) := by decide +kernel
theorem dX5_meets_148 : decode cX5_meets 148 = .ok (.getfield 28, 3) := by decide +kernel
theorem dX5_meets_151 : decode cX5_meets 151 = .ok (.lconst 1, 1) := by decide +kernel
theorem dX5_meets_152 : decode cX5_meets 152 = .ok (.lor, 1) := by decide +kernel
theorem dX5_meets_153 : decode cX5_meets 153 = .ok (.putfield 28, 3) := by decide +kernel
theorem dX5_meets_156 : decode cX5_meets 156 = .ok (.goto 66, 3) := by decide +kernel
theorem dX5_meets_159 : decode cX5_meets 159 = .ok (.iload 4, 2) := by decide +kernel
theorem dX5_meets_161 : decode cX5_meets 161 = .ok (.iconst 2, 1) := by decide +kernel
theorem dX5_meets_162 : decode cX5_meets 162 = .ok (.iadd, 1) := by decide +kernel
theorem dX5_meets_163 : decode cX5_meets 163 = .ok (.iload_n 3, 1) := by decide +kernel
theorem dX5_meets_164 : decode cX5_meets 164 = .ok (.if_icmp .ge 14, 3) := by decide +kernel
theorem dX5_meets_167 : decode cX5_meets 167 = .ok (.aload_n 1, 1) := by decide +kernel
theorem dX5_meets_168 : decode cX5_meets 168 = .ok (.iload 4, 2) := by decide +kernel
theorem dX5_meets_170 : decode cX5_meets 170 = .ok (.iconst 2, 1) := by decide +kernel
theorem dX5_meets_171 : decode cX5_meets 171 = .ok (.iadd, 1) := by decide +kernel
theorem dX5_meets_172 : decode cX5_meets 172 = .ok (.invokestatic 34, 3) := by decide +kernel
theorem dX5_meets_175 : decode cX5_meets 175 = .ok (.goto 4, 3) := by decide +kernel
theorem dX5_meets_178 : decode cX5_meets 178 = .ok (.iconst (-1), 1) := by decide +kernel
theorem dX5_meets_179 : decode cX5_meets 179 = .ok (.istore 6, 2) := by decide +kernel
theorem dX5_meets_181 : decode cX5_meets 181 = .ok (.aload_n 1, 1) := by decide +kernel
theorem dX5_meets_182 : decode cX5_meets 182 = .ok (.iload 4, 2) := by decide +kernel
theorem dX5_meets_184 : decode cX5_meets 184 = .ok (.iconst 1, 1) := by decide +kernel
theorem dX5_meets_185 : decode cX5_meets 185 = .ok (.iadd, 1) := by decide +kernel
theorem dX5_meets_186 : decode cX5_meets 186 = .ok (.invokestatic 34, 3) := by decide +kernel
theorem dX5_meets_189 : decode cX5_meets 189 = .ok (.iload 6, 2) := by decide +kernel
theorem dX5_meets_191 : decode cX5_meets 191 = .ok (.invokestatic 49, 3) := by decide +kernel
theorem dX5_meets_194 : decode cX5_meets 194 = .ok (.istore 7, 2) := by decide +kernel
theorem dX5_meets_196 : decode cX5_meets 196 = .ok (.aload_n 0, 1) := by decide +kernel
theorem dX5_meets_197 : decode cX5_meets 197 = .ok (.aload_n 0, 1) := by decide +kernel
theorem dX5_meets_198 : decode cX5_meets 198 = .ok (.aload_n 1, 1) := by decide +kernel
theorem dX5_meets_199 : decode cX5_meets 199 = .ok (.iload 4, 2) := by decide +kernel
theorem dX5_meets_201 : decode cX5_meets 201 = .ok (.iconst 1, 1) := by decide +kernel
theorem dX5_meets_202 : decode cX5_meets 202 = .ok (.isub, 1) := by decide +kernel
theorem dX5_meets_203 : decode cX5_meets 203 = .ok (.invokestatic 34, 3) := by decide +kernel
theorem dX5_meets_206 : decode cX5_meets 206 = .ok (.invokevirtual 53, 3) := by decide +kernel
theorem dX5_meets_209 : decode cX5_meets 209 = .ok (.iload 5, 2) := by decide +kernel
theorem dX5_meets_211 : decode cX5_meets 211 = .ok (.iload 7, 2) := by decide +kernel
theorem dX5_meets_213 : decode cX5_meets 213 = .ok (.invokestatic 57, 3) := by decide +kernel
theorem dX5_meets_216 : decode cX5_meets 216 = .ok (.invokevirtual 45, 3) := by decide +kernel
theorem dX5_meets_219 : decode cX5_meets 219 = .ok (.goto 3, 3) := by decide +kernel
theorem dX5_meets_222 : decode cX5_meets 222 = .ok (.iinc 4 1, 3) := by decide +kernel
theorem dX5_meets_225 : decode cX5_meets 225 = .ok (.goto (-207), 3) := by decide +kernel
theorem dX5_meets_228 : decode cX5_meets 228 = .ok (.aload_n 0, 1) := by decide +kernel
theorem dX5_meets_229 : decode cX5_meets 229 = .ok (.getfield 24, 3) := by decide +kernel
theorem dX5_meets_232 : decode cX5_meets 232 = .ok (.aload_n 0, 1) := by decide +kernel
theorem dX5_meets_233 : decode cX5_meets 233 = .ok (.getfield 28, 3) := by decide +kernel
theorem dX5_meets_236 : decode cX5_meets 236 = .ok (.lor, 1) := by decide +kernel
theorem dX5_meets_237 : decode cX5_meets 237 = .ok (.lconst 1, 1) := by decide +kernel
theorem dX5_meets_238 : decode cX5_meets 238 = .ok (.land, 1) := by decide +kernel
theorem dX5_meets_239 : decode cX5_meets 239 = .ok (.lconst 1, 1) := by decide +kernel
theorem dX5_meets_240 : decode cX5_meets 240 = .ok (.lcmp, 1) := by decide +kernel
theorem dX5_meets_241 : decode cX5_meets 241 = .ok (.ifCond .ne 7, 3) := by decide +kernel
theorem dX5_meets_244 : decode cX5_meets 244 = .ok (.iconst 1, 1) := by decide +kernel
theorem dX5_meets_245 : decode cX5_meets 245 = .ok (.goto 4, 3) := by decide +kernel
theorem dX5_meets_248 : decode cX5_meets 248 = .ok (.iconst 0, 1) := by decide +kernel
theorem dX5_meets_249 : decode cX5_meets 249 = .ok (.ireturn, 1) := by decide +kernel
theorem dX5_numberOf_0 : decode cX5_numberOf 0 = .ok (.iload_n 1, 1) := by decide +kernel
theorem dX5_numberOf_1 : decode cX5_numberOf 1 = .ok (.bipush 48, 2) := by decide +kernel
theorem dX5_numberOf_3 : decode cX5_numberOf 3 = .ok (.if_icmp .lt 13, 3) := by decide +kernel
theorem dX5_numberOf_6 : decode cX5_numberOf 6 = .ok (.iload_n 1, 1) := by decide +kernel
theorem dX5_numberOf_7 : decode cX5_numberOf 7 = .ok (.bipush 57, 2) := by decide +kernel
theorem dX5_numberOf_9 : decode cX5_numberOf 9 = .ok (.if_icmp .gt 7, 3) := by decide +kernel
theorem dX5_numberOf_12 : decode cX5_numberOf 12 = .ok (.iconst 1, 1) := by decide +kernel
theorem dX5_numberOf_13 : decode cX5_numberOf 13 = .ok (.goto 4, 3) := by decide +kernel
theorem dX5_numberOf_16 : decode cX5_numberOf 16 = .ok (.iconst 0, 1) := by decide +kernel
theorem dX5_numberOf_17 : decode cX5_numberOf 17 = .ok (.istore_n 2, 1) := by decide +kernel
theorem dX5_numberOf_18 : decode cX5_numberOf 18 = .ok (.iload_n 2, 1) := by decide +kernel
theorem dX5_numberOf_19 : decode cX5_numberOf 19 = .ok (.ifCond .eq 18, 3) := by decide +kernel
theorem dX5_numberOf_22 : decode cX5_numberOf 22 = .ok (.bipush 10, 2) := by decide +kernel
theorem dX5_numberOf_24 : decode cX5_numberOf 24 = .ok (.iload_n 0, 1) := by decide +kernel
theorem dX5_numberOf_25 : decode cX5_numberOf 25 = .ok (.bipush 48, 2) := by decide +kernel
theorem dX5_numberOf_27 : decode cX5_numberOf 27 = .ok (.isub, 1) := by decide +kernel
theorem dX5_numberOf_28 : decode cX5_numberOf 28 = .ok (.imul, 1) := by decide +kernel
theorem dX5_numberOf_29 : decode cX5_numberOf 29 = .ok (.iload_n 1, 1) := by decide +kernel
theorem dX5_numberOf_30 : decode cX5_numberOf 30 = .ok (.iadd, 1) := by decide +kernel
theorem dX5_numberOf_31 : decode cX5_numberOf 31 = .ok (.bipush 48, 2) := by decide +kernel
theorem dX5_numberOf_33 : decode cX5_numberOf 33 = .ok (.isub, 1) := by decide +kernel
theorem dX5_numberOf_34 : decode cX5_numberOf 34 = .ok (.goto 7, 3) := by decide +kernel
theorem dX5_numberOf_37 : decode cX5_numberOf 37 = .ok (.iload_n 0, 1) := by decide +kernel
theorem dX5_numberOf_38 : decode cX5_numberOf 38 = .ok (.bipush 48, 2) := by decide +kernel
theorem dX5_numberOf_40 : decode cX5_numberOf 40 = .ok (.isub, 1) := by decide +kernel
theorem dX5_numberOf_41 : decode cX5_numberOf 41 = .ok (.ireturn, 1) := by decide +kernel
theorem dX5_set_0 : decode cX5_set 0 = .ok (.aload_n 0, 1) := by decide +kernel
theorem dX5_set_1 : decode cX5_set 1 = .ok (.iload_n 1, 1) := by decide +kernel
theorem dX5_set_2 : decode cX5_set 2 = .ok (.putfield 9, 3) := by decide +kernel
theorem dX5_set_5 : decode cX5_set 5 = .ok (.aload_n 0, 1) := by decide +kernel
theorem dX5_set_6 : decode cX5_set 6 = .ok (.iload_n 2, 1) := by decide +kernel
theorem dX5_set_7 : decode cX5_set 7 = .ok (.putfield 15, 3) := by decide +kernel
theorem dX5_set_10 : decode cX5_set 10 = .ok (.aload_n 0, 1) := by decide +kernel
theorem dX5_set_11 : decode cX5_set 11 = .ok (.iload_n 3, 1) := by decide +kernel
theorem dX5_set_12 : decode cX5_set 12 = .ok (.putfield 18, 3) := by decide +kernel
theorem dX5_set_15 : decode cX5_set 15 = .ok (.aload_n 0, 1) := by decide +kernel
theorem dX5_set_16 : decode cX5_set 16 = .ok (.iload 4, 2) := by decide +kernel
theorem dX5_set_18 : decode cX5_set 18 = .ok (.putfield 21, 3) := by decide +kernel
theorem dX5_set_21 : decode cX5_set 21 = .ok (.return_, 1) := by decide +kernel
theorem dX5_take_0 : decode cX5_take 0 = .ok (.lload_n 1, 1) := by decide +kernel
theorem dX5_take_1 : decode cX5_take 1 = .ok (.aload_n 0, 1) := by decide +kernel
theorem dX5_take_2 : decode cX5_take 2 = .ok (.getfield 31, 3) := by decide +kernel
theorem dX5_take_5 : decode cX5_take 5 = .ok (.lconst 1, 1) := by decide +kernel
theorem dX5_take_6 : decode cX5_take 6 = .ok (.land, 1) := by decide +kernel
theorem dX5_take_7 : decode cX5_take 7 = .ok (.lxor, 1) := by decide +kernel
theorem dX5_take_8 : decode cX5_take 8 = .ok (.lconst 0, 1) := by decide +kernel
theorem dX5_take_9 : decode cX5_take 9 = .ok (.lcmp, 1) := by decide +kernel
theorem dX5_take_10 : decode cX5_take 10 = .ok (.ifCond .ne 15, 3) := by decide +kernel
theorem dX5_take_13 : decode cX5_take 13 = .ok (.aload_n 0, 1) := by decide +kernel
theorem dX5_take_14 : decode cX5_take 14 = .ok (.dup, 1) := by decide +kernel
theorem dX5_take_15 : decode cX5_take 15 = .ok (.getfield 28, 3) := by decide +kernel
theorem dX5_take_18 : decode cX5_take 18 = .ok (.ldc2_w 61, 3) := by decide +kernel
theorem dX5_take_21 : decode cX5_take 21 = .ok (.land, 1) := by decide +kernel
theorem dX5_take_22 : decode cX5_take 22 = .ok (.putfield 28, 3) := by decide +kernel
theorem dX5_take_25 : decode cX5_take 25 = .ok (.aload_n 0, 1) := by decide +kernel
theorem dX5_take_26 : decode cX5_take 26 = .ok (.dup, 1) := by decide +kernel
theorem dX5_take_27 : decode cX5_take 27 = .ok (.getfield 31, 3) := by decide +kernel
theorem dX5_take_30 : decode cX5_take 30 = .ok (.ldc2_w 61, 3) := by decide +kernel
theorem dX5_take_33 : decode cX5_take 33 = .ok (.land, 1) := by decide +kernel
theorem dX5_take_34 : decode cX5_take 34 = .ok (.putfield 31, 3) := by decide +kernel
theorem dX5_take_37 : decode cX5_take 37 = .ok (.return_, 1) := by decide +kernel
theorem dX5_valueOf_0 : decode cX5_valueOf 0 = .ok (.iload_n 1, 1) := by decide +kernel
theorem dX5_valueOf_1 : decode cX5_valueOf 1 = .ok (.tableswitch 46 107 110 #[36, 31, 46, 41], 31) := by decide +kernel
theorem dX5_valueOf_32 : decode cX5_valueOf 32 = .ok (.aload_n 0, 1) := by decide +kernel
theorem dX5_valueOf_33 : decode cX5_valueOf 33 = .ok (.getfield 9, 3) := by decide +kernel
theorem dX5_valueOf_36 : decode cX5_valueOf 36 = .ok (.ireturn, 1) := by decide +kernel
theorem dX5_valueOf_37 : decode cX5_valueOf 37 = .ok (.aload_n 0, 1) := by decide +kernel
theorem dX5_valueOf_38 : decode cX5_valueOf 38 = .ok (.getfield 15, 3) := by decide +kernel
theorem dX5_valueOf_41 : decode cX5_valueOf 41 = .ok (.ireturn, 1) := by decide +kernel
theorem dX5_valueOf_42 : decode cX5_valueOf 42 = .ok (.aload_n 0, 1) := by decide +kernel
theorem dX5_valueOf_43 : decode cX5_valueOf 43 = .ok (.getfield 18, 3) := by decide +kernel
theorem dX5_valueOf_46 : decode cX5_valueOf 46 = .ok (.ireturn, 1) := by decide +kernel
theorem dX5_valueOf_47 : decode cX5_valueOf 47 = .ok (.aload_n 0, 1) := by decide +kernel
theorem dX5_valueOf_48 : decode cX5_valueOf 48 = .ok (.getfield 21, 3) := by decide +kernel
theorem dX5_valueOf_51 : decode cX5_valueOf 51 = .ok (.ireturn, 1) := by decide +kernel
theorem dX6_add_0 : decode cX6_add 0 = .ok (.aload_n 0, 1) := by decide +kernel
theorem dX6_add_1 : decode cX6_add 1 = .ok (.getfield 26, 3) := by decide +kernel
theorem dX6_add_4 : decode cX6_add 4 = .ok (.bipush 7, 2) := by decide +kernel
theorem dX6_add_6 : decode cX6_add 6 = .ok (.imul, 1) := by decide +kernel
theorem dX6_add_7 : decode cX6_add 7 = .ok (.istore 8, 2) := by decide +kernel
theorem dX6_add_9 : decode cX6_add 9 = .ok (.aload_n 0, 1) := by decide +kernel
theorem dX6_add_10 : decode cX6_add 10 = .ok (.getfield 19, 3) := by decide +kernel
theorem dX6_add_13 : decode cX6_add 13 = .ok (.iload 8, 2) := by decide +kernel
theorem dX6_add_15 : decode cX6_add 15 = .ok (.iconst 0, 1) := by decide +kernel
theorem dX6_add_16 : decode cX6_add 16 = .ok (.iadd, 1) := by decide +kernel
theorem dX6_add_17 : decode cX6_add 17 = .ok (.iload_n 1, 1) := by decide +kernel
theorem dX6_add_18 : decode cX6_add 18 = .ok (.invokestatic 36, 3) := by decide +kernel
theorem dX6_add_21 : decode cX6_add 21 = .ok (.aload_n 0, 1) := by decide +kernel
theorem dX6_add_22 : decode cX6_add 22 = .ok (.getfield 19, 3) := by decide +kernel
theorem dX6_add_25 : decode cX6_add 25 = .ok (.iload 8, 2) := by decide +kernel
theorem dX6_add_27 : decode cX6_add 27 = .ok (.iconst 1, 1) := by decide +kernel
theorem dX6_add_28 : decode cX6_add 28 = .ok (.iadd, 1) := by decide +kernel
theorem dX6_add_29 : decode cX6_add 29 = .ok (.iload_n 2, 1) := by decide +kernel
theorem dX6_add_30 : decode cX6_add 30 = .ok (.invokestatic 36, 3) := by decide +kernel
theorem dX6_add_33 : decode cX6_add 33 = .ok (.aload_n 0, 1) := by decide +kernel
theorem dX6_add_34 : decode cX6_add 34 = .ok (.getfield 19, 3) := by decide +kernel
theorem dX6_add_37 : decode cX6_add 37 = .ok (.iload 8, 2) := by decide +kernel
theorem dX6_add_39 : decode cX6_add 39 = .ok (.iconst 2, 1) := by decide +kernel
theorem dX6_add_40 : decode cX6_add 40 = .ok (.iadd, 1) := by decide +kernel
theorem dX6_add_41 : decode cX6_add 41 = .ok (.iload_n 3, 1) := by decide +kernel
theorem dX6_add_42 : decode cX6_add 42 = .ok (.invokestatic 36, 3) := by decide +kernel
theorem dX6_add_45 : decode cX6_add 45 = .ok (.aload_n 0, 1) := by decide +kernel
theorem dX6_add_46 : decode cX6_add 46 = .ok (.getfield 19, 3) := by decide +kernel
theorem dX6_add_49 : decode cX6_add 49 = .ok (.iload 8, 2) := by decide +kernel
theorem dX6_add_51 : decode cX6_add 51 = .ok (.iconst 3, 1) := by decide +kernel
theorem dX6_add_52 : decode cX6_add 52 = .ok (.iadd, 1) := by decide +kernel
theorem dX6_add_53 : decode cX6_add 53 = .ok (.iload 4, 2) := by decide +kernel
theorem dX6_add_55 : decode cX6_add 55 = .ok (.invokestatic 36, 3) := by decide +kernel
theorem dX6_add_58 : decode cX6_add 58 = .ok (.aload_n 0, 1) := by decide +kernel
theorem dX6_add_59 : decode cX6_add 59 = .ok (.getfield 19, 3) := by decide +kernel
theorem dX6_add_62 : decode cX6_add 62 = .ok (.iload 8, 2) := by decide +kernel
theorem dX6_add_64 : decode cX6_add 64 = .ok (.iconst 4, 1) := by decide +kernel
theorem dX6_add_65 : decode cX6_add 65 = .ok (.iadd, 1) := by decide +kernel
theorem dX6_add_66 : decode cX6_add 66 = .ok (.iload 5, 2) := by decide +kernel
theorem dX6_add_68 : decode cX6_add 68 = .ok (.invokestatic 36, 3) := by decide +kernel
theorem dX6_add_71 : decode cX6_add 71 = .ok (.aload_n 0, 1) := by decide +kernel
theorem dX6_add_72 : decode cX6_add 72 = .ok (.getfield 19, 3) := by decide +kernel
theorem dX6_add_75 : decode cX6_add 75 = .ok (.iload 8, 2) := by decide +kernel
theorem dX6_add_77 : decode cX6_add 77 = .ok (.iconst 5, 1) := by decide +kernel
theorem dX6_add_78 : decode cX6_add 78 = .ok (.iadd, 1) := by decide +kernel
theorem dX6_add_79 : decode cX6_add 79 = .ok (.iload 6, 2) := by decide +kernel
theorem dX6_add_81 : decode cX6_add 81 = .ok (.invokestatic 36, 3) := by decide +kernel
theorem dX6_add_84 : decode cX6_add 84 = .ok (.aload_n 0, 1) := by decide +kernel
theorem dX6_add_85 : decode cX6_add 85 = .ok (.getfield 19, 3) := by decide +kernel
theorem dX6_add_88 : decode cX6_add 88 = .ok (.iload 8, 2) := by decide +kernel
theorem dX6_add_90 : decode cX6_add 90 = .ok (.bipush 6, 2) := by decide +kernel
theorem dX6_add_92 : decode cX6_add 92 = .ok (.iadd, 1) := by decide +kernel
theorem dX6_add_93 : decode cX6_add 93 = .ok (.iload 7, 2) := by decide +kernel
theorem dX6_add_95 : decode cX6_add 95 = .ok (.invokestatic 36, 3) := by decide +kernel
theorem dX6_add_98 : decode cX6_add 98 = .ok (.aload_n 0, 1) := by decide +kernel
theorem dX6_add_99 : decode cX6_add 99 = .ok (.dup, 1) := by decide +kernel
theorem dX6_add_100 : decode cX6_add 100 = .ok (.getfield 26, 3) := by decide +kernel
theorem dX6_add_103 : decode cX6_add 103 = .ok (.dup_x1, 1) := by decide +kernel
theorem dX6_add_104 : decode cX6_add 104 = .ok (.iconst 1, 1) := by decide +kernel
theorem dX6_add_105 : decode cX6_add 105 = .ok (.iadd, 1) := by decide +kernel
theorem dX6_add_106 : decode cX6_add 106 = .ok (.putfield 26, 3) := by decide +kernel
theorem dX6_add_109 : decode cX6_add 109 = .ok (.ireturn, 1) := by decide +kernel
theorem dX6_addRing_0 : decode cX6_addRing 0 = .ok (.aload_n 0, 1) := by decide +kernel
theorem dX6_addRing_1 : decode cX6_addRing 1 = .ok (.getfield 23, 3) := by decide +kernel
theorem dX6_addRing_4 : decode cX6_addRing 4 = .ok (.aload_n 0, 1) := by decide +kernel
theorem dX6_addRing_5 : decode cX6_addRing 5 = .ok (.getfield 26, 3) := by decide +kernel
theorem dX6_addRing_8 : decode cX6_addRing 8 = .ok (.iconst 3, 1) := by decide +kernel
theorem dX6_addRing_9 : decode cX6_addRing 9 = .ok (.imul, 1) := by decide +kernel
theorem dX6_addRing_10 : decode cX6_addRing 10 = .ok (.iload_n 3, 1) := by decide +kernel
theorem dX6_addRing_11 : decode cX6_addRing 11 = .ok (.invokestatic 36, 3) := by decide +kernel
theorem dX6_addRing_14 : decode cX6_addRing 14 = .ok (.aload_n 0, 1) := by decide +kernel
theorem dX6_addRing_15 : decode cX6_addRing 15 = .ok (.iconst 2, 1) := by decide +kernel
theorem dX6_addRing_16 : decode cX6_addRing 16 = .ok (.iload_n 1, 1) := by decide +kernel
theorem dX6_addRing_17 : decode cX6_addRing 17 = .ok (.iload_n 2, 1) := by decide +kernel
theorem dX6_addRing_18 : decode cX6_addRing 18 = .ok (.iconst (-1), 1) := by decide +kernel
theorem dX6_addRing_19 : decode cX6_addRing 19 = .ok (.iconst (-1), 1) := by decide +kernel
theorem dX6_addRing_20 : decode cX6_addRing 20 = .ok (.iconst (-1), 1) := by decide +kernel
theorem dX6_addRing_21 : decode cX6_addRing 21 = .ok (.iload 4, 2) := by decide +kernel
theorem dX6_addRing_23 : decode cX6_addRing 23 = .ok (.invokevirtual 40, 3) := by decide +kernel
theorem dX6_addRing_26 : decode cX6_addRing 26 = .ok (.ireturn, 1) := by decide +kernel
theorem dX6_addSky_0 : decode cX6_addSky 0 = .ok (.aload_n 0, 1) := by decide +kernel
theorem dX6_addSky_1 : decode cX6_addSky 1 = .ok (.getfield 23, 3) := by decide +kernel
theorem dX6_addSky_4 : decode cX6_addSky 4 = .ok (.aload_n 0, 1) := by decide +kernel
theorem dX6_addSky_5 : decode cX6_addSky 5 = .ok (.getfield 26, 3) := by decide +kernel
theorem dX6_addSky_8 : decode cX6_addSky 8 = .ok (.iconst 3, 1) := by decide +kernel
theorem dX6_addSky_9 : decode cX6_addSky 9 = .ok (.imul, 1) := by decide +kernel
theorem dX6_addSky_10 : decode cX6_addSky 10 = .ok (.iload_n 3, 1) := by decide +kernel
theorem dX6_addSky_11 : decode cX6_addSky 11 = .ok (.invokestatic 36, 3) := by decide +kernel
theorem dX6_addSky_14 : decode cX6_addSky 14 = .ok (.aload_n 0, 1) := by decide +kernel
theorem dX6_addSky_15 : decode cX6_addSky 15 = .ok (.getfield 23, 3) := by decide +kernel
theorem dX6_addSky_18 : decode cX6_addSky 18 = .ok (.aload_n 0, 1) := by decide +kernel
theorem dX6_addSky_19 : decode cX6_addSky 19 = .ok (.getfield 26, 3) := by decide +kernel
theorem dX6_addSky_22 : decode cX6_addSky 22 = .ok (.iconst 3, 1) := by decide +kernel
theorem dX6_addSky_23 : decode cX6_addSky 23 = .ok (.imul, 1) := by decide +kernel
theorem dX6_addSky_24 : decode cX6_addSky 24 = .ok (.iconst 1, 1) := by decide +kernel
theorem dX6_addSky_25 : decode cX6_addSky 25 = .ok (.iadd, 1) := by decide +kernel
theorem dX6_addSky_26 : decode cX6_addSky 26 = .ok (.iload 4, 2) := by decide +kernel
theorem dX6_addSky_28 : decode cX6_addSky 28 = .ok (.invokestatic 36, 3) := by decide +kernel
theorem dX6_addSky_31 : decode cX6_addSky 31 = .ok (.aload_n 0, 1) := by decide +kernel
theorem dX6_addSky_32 : decode cX6_addSky 32 = .ok (.getfield 23, 3) := by decide +kernel
theorem dX6_addSky_35 : decode cX6_addSky 35 = .ok (.aload_n 0, 1) := by decide +kernel
theorem dX6_addSky_36 : decode cX6_addSky 36 = .ok (.getfield 26, 3) := by decide +kernel
theorem dX6_addSky_39 : decode cX6_addSky 39 = .ok (.iconst 3, 1) := by decide +kernel
theorem dX6_addSky_40 : decode cX6_addSky 40 = .ok (.imul, 1) := by decide +kernel
theorem dX6_addSky_41 : decode cX6_addSky 41 = .ok (.iconst 2, 1) := by decide +kernel
theorem dX6_addSky_42 : decode cX6_addSky 42 = .ok (.iadd, 1) := by decide +kernel
theorem dX6_addSky_43 : decode cX6_addSky 43 = .ok (.iload 5, 2) := by decide +kernel
theorem dX6_addSky_45 : decode cX6_addSky 45 = .ok (.invokestatic 36, 3) := by decide +kernel
theorem dX6_addSky_48 : decode cX6_addSky 48 = .ok (.aload_n 0, 1) := by decide +kernel
theorem dX6_addSky_49 : decode cX6_addSky 49 = .ok (.dup, 1) := by decide +kernel
theorem dX6_addSky_50 : decode cX6_addSky 50 = .ok (.getfield 29, 3) := by decide +kernel
theorem dX6_addSky_53 : decode cX6_addSky 53 = .ok (.iconst 1, 1) := by decide +kernel
theorem dX6_addSky_54 : decode cX6_addSky 54 = .ok (.iadd, 1) := by decide +kernel
theorem dX6_addSky_55 : decode cX6_addSky 55 = .ok (.putfield 29, 3) := by decide +kernel
theorem dX6_addSky_58 : decode cX6_addSky 58 = .ok (.aload_n 0, 1) := by decide +kernel
theorem dX6_addSky_59 : decode cX6_addSky 59 = .ok (.iconst 1, 1) := by decide +kernel
theorem dX6_addSky_60 : decode cX6_addSky 60 = .ok (.iload_n 1, 1) := by decide +kernel
theorem dX6_addSky_61 : decode cX6_addSky 61 = .ok (.iload_n 2, 1) := by decide +kernel
theorem dX6_addSky_62 : decode cX6_addSky 62 = .ok (.iconst (-1), 1) := by decide +kernel
theorem dX6_addSky_63 : decode cX6_addSky 63 = .ok (.iconst (-1), 1) := by decide +kernel
theorem dX6_addSky_64 : decode cX6_addSky 64 = .ok (.iconst (-1), 1) := by decide +kernel
theorem dX6_addSky_65 : decode cX6_addSky 65 = .ok (.iload 6, 2) := by decide +kernel
theorem dX6_addSky_67 : decode cX6_addSky 67 = .ok (.invokevirtual 40, 3) := by decide +kernel
theorem dX6_addSky_70 : decode cX6_addSky 70 = .ok (.ireturn, 1) := by decide +kernel
theorem dX6_areSkiesFull_0 : decode cX6_areSkiesFull 0 = .ok (.aload_n 0, 1) := by decide +kernel
theorem dX6_areSkiesFull_1 : decode cX6_areSkiesFull 1 = .ok (.getfield 29, 3) := by decide +kernel
theorem dX6_areSkiesFull_4 : decode cX6_areSkiesFull 4 = .ok (.iconst 2, 1) := by decide +kernel
theorem dX6_areSkiesFull_5 : decode cX6_areSkiesFull 5 = .ok (.if_icmp .lt 7, 3) := by decide +kernel
theorem dX6_areSkiesFull_8 : decode cX6_areSkiesFull 8 = .ok (.iconst 1, 1) := by decide +kernel
theorem dX6_areSkiesFull_9 : decode cX6_areSkiesFull 9 = .ok (.goto 4, 3) := by decide +kernel
theorem dX6_areSkiesFull_12 : decode cX6_areSkiesFull 12 = .ok (.iconst 0, 1) := by decide +kernel
theorem dX6_areSkiesFull_13 : decode cX6_areSkiesFull 13 = .ok (.ireturn, 1) := by decide +kernel
theorem dX6_beginning_0 : decode cX6_beginning 0 = .ok (.aload_n 0, 1) := by decide +kernel
theorem dX6_beginning_1 : decode cX6_beginning 1 = .ok (.getfield 23, 3) := by decide +kernel
theorem dX6_beginning_4 : decode cX6_beginning 4 = .ok (.iload_n 1, 1) := by decide +kernel
theorem dX6_beginning_5 : decode cX6_beginning 5 = .ok (.iconst 3, 1) := by decide +kernel
theorem dX6_beginning_6 : decode cX6_beginning 6 = .ok (.imul, 1) := by decide +kernel
theorem dX6_beginning_7 : decode cX6_beginning 7 = .ok (.iload_n 2, 1) := by decide +kernel
theorem dX6_beginning_8 : decode cX6_beginning 8 = .ok (.iadd, 1) := by decide +kernel
theorem dX6_beginning_9 : decode cX6_beginning 9 = .ok (.invokestatic 32, 3) := by decide +kernel
theorem dX6_beginning_12 : decode cX6_beginning 12 = .ok (.aload_n 0, 1) := by decide +kernel
theorem dX6_beginning_13 : decode cX6_beginning 13 = .ok (.getfield 19, 3) := by decide +kernel
theorem dX6_beginning_16 : decode cX6_beginning 16 = .ok (.iload_n 1, 1) := by decide +kernel
theorem dX6_beginning_17 : decode cX6_beginning 17 = .ok (.bipush 7, 2) := by decide +kernel
theorem dX6_beginning_19 : decode cX6_beginning 19 = .ok (.imul, 1) := by decide +kernel
theorem dX6_beginning_20 : decode cX6_beginning 20 = .ok (.iconst 2, 1) := by decide +kernel
theorem dX6_beginning_21 : decode cX6_beginning 21 = .ok (.iadd, 1) := by decide +kernel
theorem dX6_beginning_22 : decode cX6_beginning 22 = .ok (.invokestatic 32, 3) := by decide +kernel
theorem dX6_beginning_25 : decode cX6_beginning 25 = .ok (.isub, 1) := by decide +kernel
theorem dX6_beginning_26 : decode cX6_beginning 26 = .ok (.iconst 1, 1) := by decide +kernel
theorem dX6_beginning_27 : decode cX6_beginning 27 = .ok (.iadd, 1) := by decide +kernel
theorem dX6_beginning_28 : decode cX6_beginning 28 = .ok (.ireturn, 1) := by decide +kernel
theorem dX6_digestOn_0 : decode cX6_digestOn 0 = .ok (.lload_n 1, 1) := by decide +kernel
theorem dX6_digestOn_1 : decode cX6_digestOn 1 = .ok (.lstore_n 3, 1) := by decide +kernel
theorem dX6_digestOn_2 : decode cX6_digestOn 2 = .ok (.iconst 0, 1) := by decide +kernel
theorem dX6_digestOn_3 : decode cX6_digestOn 3 = .ok (.istore 5, 2) := by decide +kernel
theorem dX6_digestOn_5 : decode cX6_digestOn 5 = .ok (.iload 5, 2) := by decide +kernel
theorem dX6_digestOn_7 : decode cX6_digestOn 7 = .ok (.aload_n 0, 1) := by decide +kernel
theorem dX6_digestOn_8 : decode cX6_digestOn 8 = .ok (.getfield 26, 3) := by decide +kernel
theorem dX6_digestOn_11 : decode cX6_digestOn 11 = .ok (.if_icmp .ge 83, 3) := by decide +kernel
theorem dX6_digestOn_14 : decode cX6_digestOn 14 = .ok (.iconst 0, 1) := by decide +kernel
theorem dX6_digestOn_15 : decode cX6_digestOn 15 = .ok (.istore 6, 2) := by decide +kernel
theorem dX6_digestOn_17 : decode cX6_digestOn 17 = .ok (.iload 6, 2) := by decide +kernel
theorem dX6_digestOn_19 : decode cX6_digestOn 19 = .ok (.bipush 7, 2) := by decide +kernel
theorem dX6_digestOn_21 : decode cX6_digestOn 21 = .ok (.if_icmp .ge 25, 3) := by decide +kernel
theorem dX6_digestOn_24 : decode cX6_digestOn 24 = .ok (.ldc2_w 69, 3) := by decide +kernel
theorem dX6_digestOn_27 : decode cX6_digestOn 27 = .ok (.lload_n 3, 1) := by decide +kernel
theorem dX6_digestOn_28 : decode cX6_digestOn 28 = .ok (.lmul, 1) := by decide +kernel
theorem dX6_digestOn_29 : decode cX6_digestOn 29 = .ok (.aload_n 0, 1) := by decide +kernel
theorem dX6_digestOn_30 : decode cX6_digestOn 30 = .ok (.iload 5, 2) := by decide +kernel
theorem dX6_digestOn_32 : decode cX6_digestOn 32 = .ok (.iload 6, 2) := by decide +kernel
theorem dX6_digestOn_34 : decode cX6_digestOn 34 = .ok (.invokevirtual 44, 3) := by decide +kernel
theorem dX6_digestOn_37 : decode cX6_digestOn 37 = .ok (.i2l, 1) := by decide +kernel
theorem dX6_digestOn_38 : decode cX6_digestOn 38 = .ok (.ladd, 1) := by decide +kernel
theorem dX6_digestOn_39 : decode cX6_digestOn 39 = .ok (.lstore_n 3, 1) := by decide +kernel
theorem dX6_digestOn_40 : decode cX6_digestOn 40 = .ok (.iinc 6 1, 3) := by decide +kernel
theorem dX6_digestOn_43 : decode cX6_digestOn 43 = .ok (.goto (-26), 3) := by decide +kernel
theorem dX6_digestOn_46 : decode cX6_digestOn 46 = .ok (.iconst 0, 1) := by decide +kernel
theorem dX6_digestOn_47 : decode cX6_digestOn 47 = .ok (.istore 6, 2) := by decide +kernel
theorem dX6_digestOn_49 : decode cX6_digestOn 49 = .ok (.iload 6, 2) := by decide +kernel
theorem dX6_digestOn_51 : decode cX6_digestOn 51 = .ok (.iconst 3, 1) := by decide +kernel
theorem dX6_digestOn_52 : decode cX6_digestOn 52 = .ok (.if_icmp .ge 36, 3) := by decide +kernel
theorem dX6_digestOn_55 : decode cX6_digestOn 55 = .ok (.aload_n 0, 1) := by decide +kernel
theorem dX6_digestOn_56 : decode cX6_digestOn 56 = .ok (.iload 5, 2) := by decide +kernel
theorem dX6_digestOn_58 : decode cX6_digestOn 58 = .ok (.iconst 0, 1) := by decide +kernel
theorem dX6_digestOn_59 : decode cX6_digestOn 59 = .ok (.invokevirtual 44, 3) := by decide +kernel
theorem dX6_digestOn_62 : decode cX6_digestOn 62 = .ok (.iconst 1, 1) := by decide +kernel
theorem dX6_digestOn_63 : decode cX6_digestOn 63 = .ok (.if_icmp .ne 25, 3) := by decide +kernel
theorem dX6_digestOn_66 : decode cX6_digestOn 66 = .ok (.ldc2_w 69, 3) := by decide +kernel
theorem dX6_digestOn_69 : decode cX6_digestOn 69 = .ok (.lload_n 3, 1) := by decide +kernel
theorem dX6_digestOn_70 : decode cX6_digestOn 70 = .ok (.lmul, 1) := by decide +kernel
theorem dX6_digestOn_71 : decode cX6_digestOn 71 = .ok (.aload_n 0, 1) := by decide +kernel
theorem dX6_digestOn_72 : decode cX6_digestOn 72 = .ok (.iload 5, 2) := by decide +kernel
theorem dX6_digestOn_74 : decode cX6_digestOn 74 = .ok (.iload 6, 2) := by decide +kernel
theorem dX6_digestOn_76 : decode cX6_digestOn 76 = .ok (.invokevirtual 71, 3) := by decide +kernel
theorem dX6_digestOn_79 : decode cX6_digestOn 79 = .ok (.i2l, 1) := by decide +kernel
theorem dX6_digestOn_80 : decode cX6_digestOn 80 = .ok (.ladd, 1) := by decide +kernel
theorem dX6_digestOn_81 : decode cX6_digestOn 81 = .ok (.lstore_n 3, 1) := by decide +kernel
theorem dX6_digestOn_82 : decode cX6_digestOn 82 = .ok (.iinc 6 1, 3) := by decide +kernel
theorem dX6_digestOn_85 : decode cX6_digestOn 85 = .ok (.goto (-36), 3) := by decide +kernel
theorem dX6_digestOn_88 : decode cX6_digestOn 88 = .ok (.iinc 5 1, 3) := by decide +kernel
theorem dX6_digestOn_91 : decode cX6_digestOn 91 = .ok (.goto (-86), 3) := by decide +kernel
theorem dX6_digestOn_94 : decode cX6_digestOn 94 = .ok (.lload_n 3, 1) := by decide +kernel
theorem dX6_digestOn_95 : decode cX6_digestOn 95 = .ok (.lreturn, 1) := by decide +kernel
theorem dX6_digestPairsOn_0 : decode cX6_digestPairsOn 0 = .ok (.lload_n 1, 1) := by decide +kernel
theorem dX6_digestPairsOn_1 : decode cX6_digestPairsOn 1 = .ok (.lstore_n 3, 1) := by decide +kernel
theorem dX6_digestPairsOn_2 : decode cX6_digestPairsOn 2 = .ok (.iconst 0, 1) := by decide +kernel
theorem dX6_digestPairsOn_3 : decode cX6_digestPairsOn 3 = .ok (.istore 5, 2) := by decide +kernel
theorem dX6_digestPairsOn_5 : decode cX6_digestPairsOn 5 = .ok (.iload 5, 2) := by decide +kernel
theorem dX6_digestPairsOn_7 : decode cX6_digestPairsOn 7 = .ok (.aload_n 0, 1) := by decide +kernel
theorem dX6_digestPairsOn_8 : decode cX6_digestPairsOn 8 = .ok (.getfield 26, 3) := by decide +kernel
theorem dX6_digestPairsOn_11 : decode cX6_digestPairsOn 11 = .ok (.if_icmp .ge 40, 3) := by decide +kernel
theorem dX6_digestPairsOn_14 : decode cX6_digestPairsOn 14 = .ok (.iconst 1, 1) := by decide +kernel
theorem dX6_digestPairsOn_15 : decode cX6_digestPairsOn 15 = .ok (.istore 6, 2) := by decide +kernel
theorem dX6_digestPairsOn_17 : decode cX6_digestPairsOn 17 = .ok (.iload 6, 2) := by decide +kernel
theorem dX6_digestPairsOn_19 : decode cX6_digestPairsOn 19 = .ok (.iconst 5, 1) := by decide +kernel
theorem dX6_digestPairsOn_20 : decode cX6_digestPairsOn 20 = .ok (.if_icmp .gt 25, 3) := by decide +kernel
theorem dX6_digestPairsOn_23 : decode cX6_digestPairsOn 23 = .ok (.ldc2_w 69, 3) := by decide +kernel
theorem dX6_digestPairsOn_26 : decode cX6_digestPairsOn 26 = .ok (.lload_n 3, 1) := by decide +kernel
theorem dX6_digestPairsOn_27 : decode cX6_digestPairsOn 27 = .ok (.lmul, 1) := by decide +kernel
theorem dX6_digestPairsOn_28 : decode cX6_digestPairsOn 28 = .ok (.aload_n 0, 1) := by decide +kernel
theorem dX6_digestPairsOn_29 : decode cX6_digestPairsOn 29 = .ok (.iload 5, 2) := by decide +kernel
theorem dX6_digestPairsOn_31 : decode cX6_digestPairsOn 31 = .ok (.iload 6, 2) := by decide +kernel
theorem dX6_digestPairsOn_33 : decode cX6_digestPairsOn 33 = .ok (.invokevirtual 44, 3) := by decide +kernel
theorem dX6_digestPairsOn_36 : decode cX6_digestPairsOn 36 = .ok (.i2l, 1) := by decide +kernel
theorem dX6_digestPairsOn_37 : decode cX6_digestPairsOn 37 = .ok (.ladd, 1) := by decide +kernel
theorem dX6_digestPairsOn_38 : decode cX6_digestPairsOn 38 = .ok (.lstore_n 3, 1) := by decide +kernel
theorem dX6_digestPairsOn_39 : decode cX6_digestPairsOn 39 = .ok (.iinc 6 1, 3) := by decide +kernel
theorem dX6_digestPairsOn_42 : decode cX6_digestPairsOn 42 = .ok (.goto (-25), 3) := by decide +kernel
theorem dX6_digestPairsOn_45 : decode cX6_digestPairsOn 45 = .ok (.iinc 5 1, 3) := by decide +kernel
theorem dX6_digestPairsOn_48 : decode cX6_digestPairsOn 48 = .ok (.goto (-43), 3) := by decide +kernel
theorem dX6_digestPairsOn_51 : decode cX6_digestPairsOn 51 = .ok (.lload_n 3, 1) := by decide +kernel
theorem dX6_digestPairsOn_52 : decode cX6_digestPairsOn 52 = .ok (.lreturn, 1) := by decide +kernel
theorem dX6_drop_0 : decode cX6_drop 0 = .ok (.aload_n 0, 1) := by decide +kernel
theorem dX6_drop_1 : decode cX6_drop 1 = .ok (.dup, 1) := by decide +kernel
theorem dX6_drop_2 : decode cX6_drop 2 = .ok (.getfield 26, 3) := by decide +kernel
theorem dX6_drop_5 : decode cX6_drop 5 = .ok (.iconst 1, 1) := by decide +kernel
theorem dX6_drop_6 : decode cX6_drop 6 = .ok (.isub, 1) := by decide +kernel
theorem dX6_drop_7 : decode cX6_drop 7 = .ok (.putfield 26, 3) := by decide +kernel
theorem dX6_drop_10 : decode cX6_drop 10 = .ok (.aload_n 0, 1) := by decide +kernel
theorem dX6_drop_11 : decode cX6_drop 11 = .ok (.dup, 1) := by decide +kernel
theorem dX6_drop_12 : decode cX6_drop 12 = .ok (.getfield 29, 3) := by decide +kernel
theorem dX6_drop_15 : decode cX6_drop 15 = .ok (.aload_n 0, 1) := by decide +kernel
theorem dX6_drop_16 : decode cX6_drop 16 = .ok (.aload_n 0, 1) := by decide +kernel
theorem dX6_drop_17 : decode cX6_drop 17 = .ok (.getfield 26, 3) := by decide +kernel
theorem dX6_drop_20 : decode cX6_drop 20 = .ok (.iconst 0, 1) := by decide +kernel
theorem dX6_drop_21 : decode cX6_drop 21 = .ok (.invokevirtual 44, 3) := by decide +kernel
theorem dX6_drop_24 : decode cX6_drop 24 = .ok (.iconst 1, 1) := by decide +kernel
theorem dX6_drop_25 : decode cX6_drop 25 = .ok (.if_icmp .ne 7, 3) := by decide +kernel
theorem dX6_drop_28 : decode cX6_drop 28 = .ok (.iconst 1, 1) := by decide +kernel
theorem dX6_drop_29 : decode cX6_drop 29 = .ok (.goto 4, 3) := by decide +kernel
theorem dX6_drop_32 : decode cX6_drop 32 = .ok (.iconst 0, 1) := by decide +kernel
theorem dX6_drop_33 : decode cX6_drop 33 = .ok (.isub, 1) := by decide +kernel
theorem dX6_drop_34 : decode cX6_drop 34 = .ok (.putfield 29, 3) := by decide +kernel
theorem dX6_drop_37 : decode cX6_drop 37 = .ok (.aload_n 0, 1) := by decide +kernel
theorem dX6_drop_38 : decode cX6_drop 38 = .ok (.getfield 26, 3) := by decide +kernel
theorem dX6_drop_41 : decode cX6_drop 41 = .ok (.ireturn, 1) := by decide +kernel
theorem dX6_fact_0 : decode cX6_fact 0 = .ok (.aload_n 0, 1) := by decide +kernel
theorem dX6_fact_1 : decode cX6_fact 1 = .ok (.getfield 19, 3) := by decide +kernel
theorem dX6_fact_4 : decode cX6_fact 4 = .ok (.iload_n 1, 1) := by decide +kernel
theorem dX6_fact_5 : decode cX6_fact 5 = .ok (.bipush 7, 2) := by decide +kernel
theorem dX6_fact_7 : decode cX6_fact 7 = .ok (.imul, 1) := by decide +kernel
theorem dX6_fact_8 : decode cX6_fact 8 = .ok (.iload_n 2, 1) := by decide +kernel
theorem dX6_fact_9 : decode cX6_fact 9 = .ok (.iadd, 1) := by decide +kernel
theorem dX6_fact_10 : decode cX6_fact 10 = .ok (.invokestatic 32, 3) := by decide +kernel
theorem dX6_fact_13 : decode cX6_fact 13 = .ok (.ireturn, 1) := by decide +kernel
theorem dX6_has_0 : decode cX6_has 0 = .ok (.iload_n 1, 1) := by decide +kernel
theorem dX6_has_1 : decode cX6_has 1 = .ok (.ifCond .lt 15, 3) := by decide +kernel
theorem dX6_has_4 : decode cX6_has 4 = .ok (.iload_n 1, 1) := by decide +kernel
theorem dX6_has_5 : decode cX6_has 5 = .ok (.aload_n 0, 1) := by decide +kernel
theorem dX6_has_6 : decode cX6_has 6 = .ok (.getfield 26, 3) := by decide +kernel
theorem dX6_has_9 : decode cX6_has 9 = .ok (.if_icmp .ge 7, 3) := by decide +kernel
theorem dX6_has_12 : decode cX6_has 12 = .ok (.iconst 1, 1) := by decide +kernel
theorem dX6_has_13 : decode cX6_has 13 = .ok (.goto 4, 3) := by decide +kernel
theorem dX6_has_16 : decode cX6_has 16 = .ok (.iconst 0, 1) := by decide +kernel
theorem dX6_has_17 : decode cX6_has 17 = .ok (.ireturn, 1) := by decide +kernel
theorem dX6_holdsAsTold_0 : decode cX6_holdsAsTold 0 = .ok (.aload_n 2, 1) := by decide +kernel
theorem dX6_holdsAsTold_1 : decode cX6_holdsAsTold 1 = .ok (.aload_n 0, 1) := by decide +kernel
theorem dX6_holdsAsTold_2 : decode cX6_holdsAsTold 2 = .ok (.iload_n 1, 1) := by decide +kernel
theorem dX6_holdsAsTold_3 : decode cX6_holdsAsTold 3 = .ok (.iconst 1, 1) := by decide +kernel
theorem dX6_holdsAsTold_4 : decode cX6_holdsAsTold 4 = .ok (.invokevirtual 44, 3) := by decide +kernel
theorem dX6_holdsAsTold_7 : decode cX6_holdsAsTold 7 = .ok (.invokevirtual 54, 3) := by decide +kernel
theorem dX6_holdsAsTold_10 : decode cX6_holdsAsTold 10 = .ok (.istore_n 3, 1) := by decide +kernel
theorem dX6_holdsAsTold_11 : decode cX6_holdsAsTold 11 = .ok (.aload_n 2, 1) := by decide +kernel
theorem dX6_holdsAsTold_12 : decode cX6_holdsAsTold 12 = .ok (.aload_n 0, 1) := by decide +kernel
theorem dX6_holdsAsTold_13 : decode cX6_holdsAsTold 13 = .ok (.iload_n 1, 1) := by decide +kernel
theorem dX6_holdsAsTold_14 : decode cX6_holdsAsTold 14 = .ok (.iconst 3, 1) := by decide +kernel
theorem dX6_holdsAsTold_15 : decode cX6_holdsAsTold 15 = .ok (.invokevirtual 44, 3) := by decide +kernel
theorem dX6_holdsAsTold_18 : decode cX6_holdsAsTold 18 = .ok (.invokevirtual 54, 3) := by decide +kernel
theorem dX6_holdsAsTold_21 : decode cX6_holdsAsTold 21 = .ok (.iload_n 3, 1) := by decide +kernel
theorem dX6_holdsAsTold_22 : decode cX6_holdsAsTold 22 = .ok (.isub, 1) := by decide +kernel
theorem dX6_holdsAsTold_23 : decode cX6_holdsAsTold 23 = .ok (.aload_n 0, 1) := by decide +kernel
theorem dX6_holdsAsTold_24 : decode cX6_holdsAsTold 24 = .ok (.iload_n 1, 1) := by decide +kernel
theorem dX6_holdsAsTold_25 : decode cX6_holdsAsTold 25 = .ok (.invokevirtual 58, 3) := by decide +kernel
theorem dX6_holdsAsTold_28 : decode cX6_holdsAsTold 28 = .ok (.isub, 1) := by decide +kernel
theorem dX6_holdsAsTold_29 : decode cX6_holdsAsTold 29 = .ok (.istore 4, 2) := by decide +kernel
theorem dX6_holdsAsTold_31 : decode cX6_holdsAsTold 31 = .ok (.aload_n 0, 1) := by decide +kernel
theorem dX6_holdsAsTold_32 : decode cX6_holdsAsTold 32 = .ok (.iload_n 1, 1) := by decide +kernel
theorem dX6_holdsAsTold_33 : decode cX6_holdsAsTold 33 = .ok (.iconst 0, 1) := by decide +kernel
theorem dX6_holdsAsTold_34 : decode cX6_holdsAsTold 34 = .ok (.invokevirtual 44, 3) := by decide +kernel
theorem dX6_holdsAsTold_37 : decode cX6_holdsAsTold 37 = .ok (.tableswitch 99 0 2 #[27, 47, 83], 27) := by decide +kernel
theorem dX6_holdsAsTold_64 : decode cX6_holdsAsTold 64 = .ok (.iload 4, 2) := by decide +kernel
theorem dX6_holdsAsTold_66 : decode cX6_holdsAsTold 66 = .ok (.invokestatic 61, 3) := by decide +kernel
theorem dX6_holdsAsTold_69 : decode cX6_holdsAsTold 69 = .ok (.aload_n 0, 1) := by decide +kernel
theorem dX6_holdsAsTold_70 : decode cX6_holdsAsTold 70 = .ok (.iload_n 1, 1) := by decide +kernel
theorem dX6_holdsAsTold_71 : decode cX6_holdsAsTold 71 = .ok (.iconst 5, 1) := by decide +kernel
theorem dX6_holdsAsTold_72 : decode cX6_holdsAsTold 72 = .ok (.invokevirtual 44, 3) := by decide +kernel
theorem dX6_holdsAsTold_75 : decode cX6_holdsAsTold 75 = .ok (.if_icmp .gt 7, 3) := by decide +kernel
theorem dX6_holdsAsTold_78 : decode cX6_holdsAsTold 78 = .ok (.iconst 1, 1) := by decide +kernel
theorem dX6_holdsAsTold_79 : decode cX6_holdsAsTold 79 = .ok (.goto 4, 3) := by decide +kernel
theorem dX6_holdsAsTold_82 : decode cX6_holdsAsTold 82 = .ok (.iconst 0, 1) := by decide +kernel
theorem dX6_holdsAsTold_83 : decode cX6_holdsAsTold 83 = .ok (.ireturn, 1) := by decide +kernel
theorem dX6_holdsAsTold_84 : decode cX6_holdsAsTold 84 = .ok (.iload_n 3, 1) := by decide +kernel
theorem dX6_holdsAsTold_85 : decode cX6_holdsAsTold 85 = .ok (.aload_n 0, 1) := by decide +kernel
theorem dX6_holdsAsTold_86 : decode cX6_holdsAsTold 86 = .ok (.iload_n 1, 1) := by decide +kernel
theorem dX6_holdsAsTold_87 : decode cX6_holdsAsTold 87 = .ok (.iconst 0, 1) := by decide +kernel
theorem dX6_holdsAsTold_88 : decode cX6_holdsAsTold 88 = .ok (.invokevirtual 66, 3) := by decide +kernel
theorem dX6_holdsAsTold_91 : decode cX6_holdsAsTold 91 = .ok (.if_icmp .eq 23, 3) := by decide +kernel
theorem dX6_holdsAsTold_94 : decode cX6_holdsAsTold 94 = .ok (.iload_n 3, 1) := by decide +kernel
theorem dX6_holdsAsTold_95 : decode cX6_holdsAsTold 95 = .ok (.aload_n 0, 1) := by decide +kernel
theorem dX6_holdsAsTold_96 : decode cX6_holdsAsTold 96 = .ok (.iload_n 1, 1) := by decide +kernel
theorem dX6_holdsAsTold_97 : decode cX6_holdsAsTold 97 = .ok (.iconst 1, 1) := by decide +kernel
theorem dX6_holdsAsTold_98 : decode cX6_holdsAsTold 98 = .ok (.invokevirtual 66, 3) := by decide +kernel
theorem dX6_holdsAsTold_101 : decode cX6_holdsAsTold 101 = .ok (.if_icmp .eq 13, 3) := by decide +kernel
theorem dX6_holdsAsTold_104 : decode cX6_holdsAsTold 104 = .ok (.iload_n 3, 1) := by decide +kernel
theorem dX6_holdsAsTold_105 : decode cX6_holdsAsTold 105 = .ok (.aload_n 0, 1) := by decide +kernel
theorem dX6_holdsAsTold_106 : decode cX6_holdsAsTold 106 = .ok (.iload_n 1, 1) := by decide +kernel
theorem dX6_holdsAsTold_107 : decode cX6_holdsAsTold 107 = .ok (.iconst 2, 1) := by decide +kernel
theorem dX6_holdsAsTold_108 : decode cX6_holdsAsTold 108 = .ok (.invokevirtual 66, 3) := by decide +kernel
theorem dX6_holdsAsTold_111 : decode cX6_holdsAsTold 111 = .ok (.if_icmp .ne 7, 3) := by decide +kernel
theorem dX6_holdsAsTold_114 : decode cX6_holdsAsTold 114 = .ok (.iconst 1, 1) := by decide +kernel
theorem dX6_holdsAsTold_115 : decode cX6_holdsAsTold 115 = .ok (.goto 4, 3) := by decide +kernel
theorem dX6_holdsAsTold_118 : decode cX6_holdsAsTold 118 = .ok (.iconst 0, 1) := by decide +kernel
theorem dX6_holdsAsTold_119 : decode cX6_holdsAsTold 119 = .ok (.ireturn, 1) := by decide +kernel
theorem dX6_holdsAsTold_120 : decode cX6_holdsAsTold 120 = .ok (.iload_n 3, 1) := by decide +kernel
theorem dX6_holdsAsTold_121 : decode cX6_holdsAsTold 121 = .ok (.aload_n 0, 1) := by decide +kernel
theorem dX6_holdsAsTold_122 : decode cX6_holdsAsTold 122 = .ok (.iload_n 1, 1) := by decide +kernel
theorem dX6_holdsAsTold_123 : decode cX6_holdsAsTold 123 = .ok (.iconst 0, 1) := by decide +kernel
theorem dX6_holdsAsTold_124 : decode cX6_holdsAsTold 124 = .ok (.invokevirtual 66, 3) := by decide +kernel
theorem dX6_holdsAsTold_127 : decode cX6_holdsAsTold 127 = .ok (.if_icmp .lt 7, 3) := by decide +kernel
theorem dX6_holdsAsTold_130 : decode cX6_holdsAsTold 130 = .ok (.iconst 1, 1) := by decide +kernel
theorem dX6_holdsAsTold_131 : decode cX6_holdsAsTold 131 = .ok (.goto 4, 3) := by decide +kernel
theorem dX6_holdsAsTold_134 : decode cX6_holdsAsTold 134 = .ok (.iconst 0, 1) := by decide +kernel
theorem dX6_holdsAsTold_135 : decode cX6_holdsAsTold 135 = .ok (.ireturn, 1) := by decide +kernel
theorem dX6_holdsAsTold_136 : decode cX6_holdsAsTold 136 = .ok (.iload 4, 2) := by decide +kernel
theorem dX6_holdsAsTold_138 : decode cX6_holdsAsTold 138 = .ok (.ifCond .lt 7, 3) := by decide +kernel
theorem dX6_holdsAsTold_141 : decode cX6_holdsAsTold 141 = .ok (.iconst 1, 1) := by decide +kernel
theorem dX6_holdsAsTold_142 : decode cX6_holdsAsTold 142 = .ok (.goto 4, 3) := by decide +kernel
theorem dX6_holdsAsTold_145 : decode cX6_holdsAsTold 145 = .ok (.iconst 0, 1) := by decide +kernel
theorem dX6_holdsAsTold_146 : decode cX6_holdsAsTold 146 = .ok (.ireturn, 1) := by decide +kernel
theorem dX6_init_0 : decode cX6_init 0 = .ok (.aload_n 0, 1) := by decide +kernel
theorem dX6_init_1 : decode cX6_init 1 = .ok (.invokespecial 3, 3) := by decide +kernel
theorem dX6_init_4 : decode cX6_init 4 = .ok (.aload_n 0, 1) := by decide +kernel
theorem dX6_init_5 : decode cX6_init 5 = .ok (.iload_n 1, 1) := by decide +kernel
theorem dX6_init_6 : decode cX6_init 6 = .ok (.iconst 0, 1) := by decide +kernel
theorem dX6_init_7 : decode cX6_init 7 = .ok (.bipush 8, 2) := by decide +kernel
theorem dX6_init_9 : decode cX6_init 9 = .ok (.invokestatic 9, 3) := by decide +kernel
theorem dX6_init_12 : decode cX6_init 12 = .ok (.ifCond .eq 7, 3) := by decide +kernel
theorem dX6_init_15 : decode cX6_init 15 = .ok (.iload_n 1, 1) := by decide +kernel
theorem dX6_init_16 : decode cX6_init 16 = .ok (.goto 4, 3) := by decide +kernel
theorem dX6_init_19 : decode cX6_init 19 = .ok (.iconst 0, 1) := by decide +kernel
theorem dX6_init_20 : decode cX6_init 20 = .ok (.putfield 13, 3) := by decide +kernel
theorem dX6_init_23 : decode cX6_init 23 = .ok (.aload_n 0, 1) := by decide +kernel
theorem dX6_init_24 : decode cX6_init 24 = .ok (.aload_n 0, 1) := by decide +kernel
theorem dX6_init_25 : decode cX6_init 25 = .ok (.getfield 13, 3) := by decide +kernel
theorem dX6_init_28 : decode cX6_init 28 = .ok (.bipush 7, 2) := by decide +kernel
theorem dX6_init_30 : decode cX6_init 30 = .ok (.imul, 1) := by decide +kernel
theorem dX6_init_31 : decode cX6_init 31 = .ok (.newarray .int, 2) := by decide +kernel
theorem dX6_init_33 : decode cX6_init 33 = .ok (.putfield 19, 3) := by decide +kernel
theorem dX6_init_36 : decode cX6_init 36 = .ok (.aload_n 0, 1) := by decide +kernel
theorem dX6_init_37 : decode cX6_init 37 = .ok (.aload_n 0, 1) := by decide +kernel
theorem dX6_init_38 : decode cX6_init 38 = .ok (.getfield 13, 3) := by decide +kernel
theorem dX6_init_41 : decode cX6_init 41 = .ok (.iconst 3, 1) := by decide +kernel
theorem dX6_init_42 : decode cX6_init 42 = .ok (.imul, 1) := by decide +kernel
theorem dX6_init_43 : decode cX6_init 43 = .ok (.newarray .int, 2) := by decide +kernel
theorem dX6_init_45 : decode cX6_init 45 = .ok (.putfield 23, 3) := by decide +kernel
theorem dX6_init_48 : decode cX6_init 48 = .ok (.aload_n 0, 1) := by decide +kernel
theorem dX6_init_49 : decode cX6_init 49 = .ok (.iconst 0, 1) := by decide +kernel
theorem dX6_init_50 : decode cX6_init 50 = .ok (.putfield 26, 3) := by decide +kernel
theorem dX6_init_53 : decode cX6_init 53 = .ok (.aload_n 0, 1) := by decide +kernel
theorem dX6_init_54 : decode cX6_init 54 = .ok (.iconst 0, 1) := by decide +kernel
theorem dX6_init_55 : decode cX6_init 55 = .ok (.putfield 29, 3) := by decide +kernel
theorem dX6_init_58 : decode cX6_init 58 = .ok (.return_, 1) := by decide +kernel
theorem dX6_isFull_0 : decode cX6_isFull 0 = .ok (.aload_n 0, 1) := by decide +kernel
theorem dX6_isFull_1 : decode cX6_isFull 1 = .ok (.getfield 26, 3) := by decide +kernel
theorem dX6_isFull_4 : decode cX6_isFull 4 = .ok (.aload_n 0, 1) := by decide +kernel
theorem dX6_isFull_5 : decode cX6_isFull 5 = .ok (.getfield 13, 3) := by decide +kernel
theorem dX6_isFull_8 : decode cX6_isFull 8 = .ok (.if_icmp .lt 7, 3) := by decide +kernel
theorem dX6_isFull_11 : decode cX6_isFull 11 = .ok (.iconst 1, 1) := by decide +kernel
theorem dX6_isFull_12 : decode cX6_isFull 12 = .ok (.goto 4, 3) := by decide +kernel
theorem dX6_isFull_15 : decode cX6_isFull 15 = .ok (.iconst 0, 1) := by decide +kernel
theorem dX6_isFull_16 : decode cX6_isFull 16 = .ok (.ireturn, 1) := by decide +kernel
theorem dX6_isKnown_0 : decode cX6_isKnown 0 = .ok (.aload_n 0, 1) := by decide +kernel
theorem dX6_isKnown_1 : decode cX6_isKnown 1 = .ok (.iload_n 1, 1) := by decide +kernel
theorem dX6_isKnown_2 : decode cX6_isKnown 2 = .ok (.iconst 3, 1) := by decide +kernel
theorem dX6_isKnown_3 : decode cX6_isKnown 3 = .ok (.invokevirtual 44, 3) := by decide +kernel
theorem dX6_isKnown_6 : decode cX6_isKnown 6 = .ok (.istore 4, 2) := by decide +kernel
theorem dX6_isKnown_8 : decode cX6_isKnown 8 = .ok (.aload_n 0, 1) := by decide +kernel
theorem dX6_isKnown_9 : decode cX6_isKnown 9 = .ok (.iload_n 1, 1) := by decide +kernel
theorem dX6_isKnown_10 : decode cX6_isKnown 10 = .ok (.bipush 6, 2) := by decide +kernel
theorem dX6_isKnown_12 : decode cX6_isKnown 12 = .ok (.invokevirtual 44, 3) := by decide +kernel
theorem dX6_isKnown_15 : decode cX6_isKnown 15 = .ok (.iload_n 2, 1) := by decide +kernel
theorem dX6_isKnown_16 : decode cX6_isKnown 16 = .ok (.if_icmp .gt 37, 3) := by decide +kernel
theorem dX6_isKnown_19 : decode cX6_isKnown 19 = .ok (.aload_n 3, 1) := by decide +kernel
theorem dX6_isKnown_20 : decode cX6_isKnown 20 = .ok (.aload_n 0, 1) := by decide +kernel
theorem dX6_isKnown_21 : decode cX6_isKnown 21 = .ok (.iload_n 1, 1) := by decide +kernel
theorem dX6_isKnown_22 : decode cX6_isKnown 22 = .ok (.iconst 1, 1) := by decide +kernel
theorem dX6_isKnown_23 : decode cX6_isKnown 23 = .ok (.invokevirtual 44, 3) := by decide +kernel
theorem dX6_isKnown_26 : decode cX6_isKnown 26 = .ok (.iload_n 2, 1) := by decide +kernel
theorem dX6_isKnown_27 : decode cX6_isKnown 27 = .ok (.invokevirtual 48, 3) := by decide +kernel
theorem dX6_isKnown_30 : decode cX6_isKnown 30 = .ok (.ifCond .eq 23, 3) := by decide +kernel
theorem dX6_isKnown_33 : decode cX6_isKnown 33 = .ok (.iload 4, 2) := by decide +kernel
theorem dX6_isKnown_35 : decode cX6_isKnown 35 = .ok (.iconst (-1), 1) := by decide +kernel
theorem dX6_isKnown_36 : decode cX6_isKnown 36 = .ok (.if_icmp .eq 13, 3) := by decide +kernel
theorem dX6_isKnown_39 : decode cX6_isKnown 39 = .ok (.aload_n 3, 1) := by decide +kernel
theorem dX6_isKnown_40 : decode cX6_isKnown 40 = .ok (.iload 4, 2) := by decide +kernel
theorem dX6_isKnown_42 : decode cX6_isKnown 42 = .ok (.iload_n 2, 1) := by decide +kernel
theorem dX6_isKnown_43 : decode cX6_isKnown 43 = .ok (.invokevirtual 48, 3) := by decide +kernel
theorem dX6_isKnown_46 : decode cX6_isKnown 46 = .ok (.ifCond .eq 7, 3) := by decide +kernel
theorem dX6_isKnown_49 : decode cX6_isKnown 49 = .ok (.iconst 1, 1) := by decide +kernel
theorem dX6_isKnown_50 : decode cX6_isKnown 50 = .ok (.goto 4, 3) := by decide +kernel
theorem dX6_isKnown_53 : decode cX6_isKnown 53 = .ok (.iconst 0, 1) := by decide +kernel
theorem dX6_isKnown_54 : decode cX6_isKnown 54 = .ok (.ireturn, 1) := by decide +kernel
theorem dX6_shift_0 : decode cX6_shift 0 = .ok (.aload_n 0, 1) := by decide +kernel
theorem dX6_shift_1 : decode cX6_shift 1 = .ok (.getfield 19, 3) := by decide +kernel
theorem dX6_shift_4 : decode cX6_shift 4 = .ok (.iload_n 1, 1) := by decide +kernel
theorem dX6_shift_5 : decode cX6_shift 5 = .ok (.bipush 7, 2) := by decide +kernel
theorem dX6_shift_7 : decode cX6_shift 7 = .ok (.imul, 1) := by decide +kernel
theorem dX6_shift_8 : decode cX6_shift 8 = .ok (.iconst 2, 1) := by decide +kernel
theorem dX6_shift_9 : decode cX6_shift 9 = .ok (.iadd, 1) := by decide +kernel
theorem dX6_shift_10 : decode cX6_shift 10 = .ok (.invokestatic 32, 3) := by decide +kernel
theorem dX6_shift_13 : decode cX6_shift 13 = .ok (.aload_n 0, 1) := by decide +kernel
theorem dX6_shift_14 : decode cX6_shift 14 = .ok (.getfield 19, 3) := by decide +kernel
theorem dX6_shift_17 : decode cX6_shift 17 = .ok (.iload_n 1, 1) := by decide +kernel
theorem dX6_shift_18 : decode cX6_shift 18 = .ok (.bipush 7, 2) := by decide +kernel
theorem dX6_shift_20 : decode cX6_shift 20 = .ok (.imul, 1) := by decide +kernel
theorem dX6_shift_21 : decode cX6_shift 21 = .ok (.iconst 4, 1) := by decide +kernel
theorem dX6_shift_22 : decode cX6_shift 22 = .ok (.iadd, 1) := by decide +kernel
theorem dX6_shift_23 : decode cX6_shift 23 = .ok (.invokestatic 32, 3) := by decide +kernel
theorem dX6_shift_26 : decode cX6_shift 26 = .ok (.isub, 1) := by decide +kernel
theorem dX6_shift_27 : decode cX6_shift 27 = .ok (.ireturn, 1) := by decide +kernel
theorem dX6_size_0 : decode cX6_size 0 = .ok (.aload_n 0, 1) := by decide +kernel
theorem dX6_size_1 : decode cX6_size 1 = .ok (.getfield 26, 3) := by decide +kernel
theorem dX6_size_4 : decode cX6_size 4 = .ok (.ireturn, 1) := by decide +kernel
theorem dX6_spread_0 : decode cX6_spread 0 = .ok (.iload_n 1, 1) := by decide +kernel
theorem dX6_spread_1 : decode cX6_spread 1 = .ok (.istore_n 3, 1) := by decide +kernel
theorem dX6_spread_2 : decode cX6_spread 2 = .ok (.iconst 0, 1) := by decide +kernel
theorem dX6_spread_3 : decode cX6_spread 3 = .ok (.istore 4, 2) := by decide +kernel
theorem dX6_spread_5 : decode cX6_spread 5 = .ok (.iload 4, 2) := by decide +kernel
theorem dX6_spread_7 : decode cX6_spread 7 = .ok (.aload_n 0, 1) := by decide +kernel
theorem dX6_spread_8 : decode cX6_spread 8 = .ok (.getfield 26, 3) := by decide +kernel
theorem dX6_spread_11 : decode cX6_spread 11 = .ok (.if_icmp .ge 78, 3) := by decide +kernel
theorem dX6_spread_14 : decode cX6_spread 14 = .ok (.iload_n 2, 1) := by decide +kernel
theorem dX6_spread_15 : decode cX6_spread 15 = .ok (.iconst 1, 1) := by decide +kernel
theorem dX6_spread_16 : decode cX6_spread 16 = .ok (.iload 4, 2) := by decide +kernel
theorem dX6_spread_18 : decode cX6_spread 18 = .ok (.ishl, 1) := by decide +kernel
theorem dX6_spread_19 : decode cX6_spread 19 = .ok (.iand, 1) := by decide +kernel
theorem dX6_spread_20 : decode cX6_spread 20 = .ok (.ifCond .ne 6, 3) := by decide +kernel
theorem dX6_spread_23 : decode cX6_spread 23 = .ok (.goto 60, 3) := by decide +kernel
theorem dX6_spread_26 : decode cX6_spread 26 = .ok (.aload_n 0, 1) := by decide +kernel
theorem dX6_spread_27 : decode cX6_spread 27 = .ok (.iload 4, 2) := by decide +kernel
theorem dX6_spread_29 : decode cX6_spread 29 = .ok (.iconst 3, 1) := by decide +kernel
theorem dX6_spread_30 : decode cX6_spread 30 = .ok (.invokevirtual 44, 3) := by decide +kernel
theorem dX6_spread_33 : decode cX6_spread 33 = .ok (.istore 5, 2) := by decide +kernel
theorem dX6_spread_35 : decode cX6_spread 35 = .ok (.iconst 1, 1) := by decide +kernel
theorem dX6_spread_36 : decode cX6_spread 36 = .ok (.aload_n 0, 1) := by decide +kernel
theorem dX6_spread_37 : decode cX6_spread 37 = .ok (.iload 4, 2) := by decide +kernel
theorem dX6_spread_39 : decode cX6_spread 39 = .ok (.iconst 1, 1) := by decide +kernel
theorem dX6_spread_40 : decode cX6_spread 40 = .ok (.invokevirtual 44, 3) := by decide +kernel
theorem dX6_spread_43 : decode cX6_spread 43 = .ok (.ishl, 1) := by decide +kernel
theorem dX6_spread_44 : decode cX6_spread 44 = .ok (.iload 5, 2) := by decide +kernel
theorem dX6_spread_46 : decode cX6_spread 46 = .ok (.iconst (-1), 1) := by decide +kernel
theorem dX6_spread_47 : decode cX6_spread 47 = .ok (.if_icmp .ne 7, 3) := by decide +kernel
theorem dX6_spread_50 : decode cX6_spread 50 = .ok (.iconst 0, 1) := by decide +kernel
theorem dX6_spread_51 : decode cX6_spread 51 = .ok (.goto 7, 3) := by decide +kernel
theorem dX6_spread_54 : decode cX6_spread 54 = .ok (.iconst 1, 1) := by decide +kernel
theorem dX6_spread_55 : decode cX6_spread 55 = .ok (.iload 5, 2) := by decide +kernel
theorem dX6_spread_57 : decode cX6_spread 57 = .ok (.ishl, 1) := by decide +kernel
theorem dX6_spread_58 : decode cX6_spread 58 = .ok (.ior, 1) := by decide +kernel
theorem dX6_spread_59 : decode cX6_spread 59 = .ok (.istore 6, 2) := by decide +kernel
theorem dX6_spread_61 : decode cX6_spread 61 = .ok (.iload_n 3, 1) := by decide +kernel
theorem dX6_spread_62 : decode cX6_spread 62 = .ok (.iload 5, 2) := by decide +kernel
theorem dX6_spread_64 : decode cX6_spread 64 = .ok (.iconst (-1), 1) := by decide +kernel
theorem dX6_spread_65 : decode cX6_spread 65 = .ok (.if_icmp .eq 10, 3) := by decide +kernel
theorem dX6_spread_68 : decode cX6_spread 68 = .ok (.iload_n 3, 1) := by decide +kernel
theorem dX6_spread_69 : decode cX6_spread 69 = .ok (.iload 6, 2) := by decide +kernel
theorem dX6_spread_71 : decode cX6_spread 71 = .ok (.iand, 1) := by decide +kernel
theorem dX6_spread_72 : decode cX6_spread 72 = .ok (.ifCond .eq 8, 3) := by decide +kernel
theorem dX6_spread_75 : decode cX6_spread 75 = .ok (.iload 6, 2) := by decide +kernel
theorem dX6_spread_77 : decode cX6_spread 77 = .ok (.goto 4, 3) := by decide +kernel
theorem dX6_spread_80 : decode cX6_spread 80 = .ok (.iconst 0, 1) := by decide +kernel
theorem dX6_spread_81 : decode cX6_spread 81 = .ok (.ior, 1) := by decide +kernel
theorem dX6_spread_82 : decode cX6_spread 82 = .ok (.istore_n 3, 1) := by decide +kernel
theorem dX6_spread_83 : decode cX6_spread 83 = .ok (.iinc 4 1, 3) := by decide +kernel
theorem dX6_spread_86 : decode cX6_spread 86 = .ok (.goto (-81), 3) := by decide +kernel
theorem dX6_spread_89 : decode cX6_spread 89 = .ok (.iload_n 3, 1) := by decide +kernel
theorem dX6_spread_90 : decode cX6_spread 90 = .ok (.ireturn, 1) := by decide +kernel
theorem dX6_year_0 : decode cX6_year 0 = .ok (.aload_n 0, 1) := by decide +kernel
theorem dX6_year_1 : decode cX6_year 1 = .ok (.getfield 23, 3) := by decide +kernel
theorem dX6_year_4 : decode cX6_year 4 = .ok (.iload_n 1, 1) := by decide +kernel
theorem dX6_year_5 : decode cX6_year 5 = .ok (.iconst 3, 1) := by decide +kernel
theorem dX6_year_6 : decode cX6_year 6 = .ok (.imul, 1) := by decide +kernel
theorem dX6_year_7 : decode cX6_year 7 = .ok (.iload_n 2, 1) := by decide +kernel
theorem dX6_year_8 : decode cX6_year 8 = .ok (.iadd, 1) := by decide +kernel
theorem dX6_year_9 : decode cX6_year 9 = .ok (.invokestatic 32, 3) := by decide +kernel
theorem dX6_year_12 : decode cX6_year 12 = .ok (.ireturn, 1) := by decide +kernel
theorem dX7_about_0 : decode cX7_about 0 = .ok (.aload_n 0, 1) := by decide +kernel
theorem dX7_about_1 : decode cX7_about 1 = .ok (.getfield 10, 3) := by decide +kernel
theorem dX7_about_4 : decode cX7_about 4 = .ok (.iload_n 1, 1) := by decide +kernel
theorem dX7_about_5 : decode cX7_about 5 = .ok (.invokevirtual 85, 3) := by decide +kernel
theorem dX7_about_8 : decode cX7_about 8 = .ok (.ifCond .ne 6, 3) := by decide +kernel
theorem dX7_about_11 : decode cX7_about 11 = .ok (.bipush (-101), 2) := by decide +kernel
theorem dX7_about_13 : decode cX7_about 13 = .ok (.ireturn, 1) := by decide +kernel
theorem dX7_about_14 : decode cX7_about 14 = .ok (.iload_n 2, 1) := by decide +kernel
theorem dX7_about_15 : decode cX7_about 15 = .ok (.iconst 0, 1) := by decide +kernel
theorem dX7_about_16 : decode cX7_about 16 = .ok (.iconst 5, 1) := by decide +kernel
theorem dX7_about_17 : decode cX7_about 17 = .ok (.invokestatic 65, 3) := by decide +kernel
theorem dX7_about_20 : decode cX7_about 20 = .ok (.ifCond .eq 15, 3) := by decide +kernel
theorem dX7_about_23 : decode cX7_about 23 = .ok (.aload_n 0, 1) := by decide +kernel
theorem dX7_about_24 : decode cX7_about 24 = .ok (.getfield 10, 3) := by decide +kernel
theorem dX7_about_27 : decode cX7_about 27 = .ok (.iload_n 1, 1) := by decide +kernel
theorem dX7_about_28 : decode cX7_about 28 = .ok (.iload_n 2, 1) := by decide +kernel
theorem dX7_about_29 : decode cX7_about 29 = .ok (.invokevirtual 88, 3) := by decide +kernel
theorem dX7_about_32 : decode cX7_about 32 = .ok (.goto 5, 3) := by decide +kernel
theorem dX7_about_35 : decode cX7_about 35 = .ok (.bipush (-102), 2) := by decide +kernel
theorem dX7_about_37 : decode cX7_about 37 = .ok (.ireturn, 1) := by decide +kernel
theorem dX7_afloat_0 : decode cX7_afloat 0 = .ok (.iconst 0, 1) := by decide +kernel
theorem dX7_afloat_1 : decode cX7_afloat 1 = .ok (.istore_n 3, 1) := by decide +kernel
theorem dX7_afloat_2 : decode cX7_afloat 2 = .ok (.iconst 0, 1) := by decide +kernel
theorem dX7_afloat_3 : decode cX7_afloat 3 = .ok (.istore 4, 2) := by decide +kernel
theorem dX7_afloat_5 : decode cX7_afloat 5 = .ok (.iload 4, 2) := by decide +kernel
theorem dX7_afloat_7 : decode cX7_afloat 7 = .ok (.bipush 10, 2) := by decide +kernel
theorem dX7_afloat_9 : decode cX7_afloat 9 = .ok (.if_icmp .gt 39, 3) := by decide +kernel
theorem dX7_afloat_12 : decode cX7_afloat 12 = .ok (.iload_n 3, 1) := by decide +kernel
theorem dX7_afloat_13 : decode cX7_afloat 13 = .ok (.istore 5, 2) := by decide +kernel
theorem dX7_afloat_15 : decode cX7_afloat 15 = .ok (.aload_n 0, 1) := by decide +kernel
theorem dX7_afloat_16 : decode cX7_afloat 16 = .ok (.getfield 10, 3) := by decide +kernel
theorem dX7_afloat_19 : decode cX7_afloat 19 = .ok (.aload_n 0, 1) := by decide +kernel
theorem dX7_afloat_20 : decode cX7_afloat 20 = .ok (.getfield 21, 3) := by decide +kernel
theorem dX7_afloat_23 : decode cX7_afloat 23 = .ok (.iload_n 3, 1) := by decide +kernel
theorem dX7_afloat_24 : decode cX7_afloat 24 = .ok (.iload_n 1, 1) := by decide +kernel
theorem dX7_afloat_25 : decode cX7_afloat 25 = .ok (.invokevirtual 281, 3) := by decide +kernel
theorem dX7_afloat_28 : decode cX7_afloat 28 = .ok (.iload_n 2, 1) := by decide +kernel
theorem dX7_afloat_29 : decode cX7_afloat 29 = .ok (.invokevirtual 284, 3) := by decide +kernel
theorem dX7_afloat_32 : decode cX7_afloat 32 = .ok (.istore_n 3, 1) := by decide +kernel
theorem dX7_afloat_33 : decode cX7_afloat 33 = .ok (.iload_n 3, 1) := by decide +kernel
theorem dX7_afloat_34 : decode cX7_afloat 34 = .ok (.iload 5, 2) := by decide +kernel
theorem dX7_afloat_36 : decode cX7_afloat 36 = .ok (.if_icmp .ne 6, 3) := by decide +kernel
theorem dX7_afloat_39 : decode cX7_afloat 39 = .ok (.goto 9, 3) := by decide +kernel
theorem dX7_afloat_42 : decode cX7_afloat 42 = .ok (.iinc 4 1, 3) := by decide +kernel
theorem dX7_afloat_45 : decode cX7_afloat 45 = .ok (.goto (-40), 3) := by decide +kernel
theorem dX7_afloat_48 : decode cX7_afloat 48 = .ok (.aload_n 0, 1) := by decide +kernel
theorem dX7_afloat_49 : decode cX7_afloat 49 = .ok (.getfield 10, 3) := by decide +kernel
theorem dX7_afloat_52 : decode cX7_afloat 52 = .ok (.iload_n 2, 1) := by decide +kernel
theorem dX7_afloat_53 : decode cX7_afloat 53 = .ok (.invokevirtual 287, 3) := by decide +kernel
theorem dX7_afloat_56 : decode cX7_afloat 56 = .ok (.iload_n 3, 1) := by decide +kernel
theorem dX7_afloat_57 : decode cX7_afloat 57 = .ok (.iconst (-1), 1) := by decide +kernel
theorem dX7_afloat_58 : decode cX7_afloat 58 = .ok (.ixor, 1) := by decide +kernel
theorem dX7_afloat_59 : decode cX7_afloat 59 = .ok (.iand, 1) := by decide +kernel
theorem dX7_afloat_60 : decode cX7_afloat 60 = .ok (.ireturn, 1) := by decide +kernel
theorem dX7_arePair_0 : decode cX7_arePair 0 = .ok (.aload_n 0, 1) := by decide +kernel
theorem dX7_arePair_1 : decode cX7_arePair 1 = .ok (.getfield 10, 3) := by decide +kernel
theorem dX7_arePair_4 : decode cX7_arePair 4 = .ok (.iload_n 1, 1) := by decide +kernel
theorem dX7_arePair_5 : decode cX7_arePair 5 = .ok (.invokevirtual 85, 3) := by decide +kernel
theorem dX7_arePair_8 : decode cX7_arePair 8 = .ok (.ifCond .eq 23, 3) := by decide +kernel
theorem dX7_arePair_11 : decode cX7_arePair 11 = .ok (.aload_n 0, 1) := by decide +kernel
theorem dX7_arePair_12 : decode cX7_arePair 12 = .ok (.getfield 10, 3) := by decide +kernel
theorem dX7_arePair_15 : decode cX7_arePair 15 = .ok (.iload_n 2, 1) := by decide +kernel
theorem dX7_arePair_16 : decode cX7_arePair 16 = .ok (.invokevirtual 85, 3) := by decide +kernel
theorem dX7_arePair_19 : decode cX7_arePair 19 = .ok (.ifCond .eq 12, 3) := by decide +kernel
theorem dX7_arePair_22 : decode cX7_arePair 22 = .ok (.iload_n 1, 1) := by decide +kernel
theorem dX7_arePair_23 : decode cX7_arePair 23 = .ok (.iload_n 2, 1) := by decide +kernel
theorem dX7_arePair_24 : decode cX7_arePair 24 = .ok (.if_icmp .eq 7, 3) := by decide +kernel
theorem dX7_arePair_27 : decode cX7_arePair 27 = .ok (.iconst 1, 1) := by decide +kernel
theorem dX7_arePair_28 : decode cX7_arePair 28 = .ok (.goto 4, 3) := by decide +kernel
theorem dX7_arePair_31 : decode cX7_arePair 31 = .ok (.iconst 0, 1) := by decide +kernel
theorem dX7_arePair_32 : decode cX7_arePair 32 = .ok (.ireturn, 1) := by decide +kernel
theorem dX7_arePlaces_0 : decode cX7_arePlaces 0 = .ok (.iload_n 0, 1) := by decide +kernel
theorem dX7_arePlaces_1 : decode cX7_arePlaces 1 = .ok (.iconst 1, 1) := by decide +kernel
theorem dX7_arePlaces_2 : decode cX7_arePlaces 2 = .ok (.bipush 99, 2) := by decide +kernel
theorem dX7_arePlaces_4 : decode cX7_arePlaces 4 = .ok (.invokestatic 65, 3) := by decide +kernel
theorem dX7_arePlaces_7 : decode cX7_arePlaces 7 = .ok (.ifCond .eq 17, 3) := by decide +kernel
theorem dX7_arePlaces_10 : decode cX7_arePlaces 10 = .ok (.iload_n 1, 1) := by decide +kernel
theorem dX7_arePlaces_11 : decode cX7_arePlaces 11 = .ok (.iconst 1, 1) := by decide +kernel
theorem dX7_arePlaces_12 : decode cX7_arePlaces 12 = .ok (.bipush 99, 2) := by decide +kernel
theorem dX7_arePlaces_14 : decode cX7_arePlaces 14 = .ok (.invokestatic 65, 3) := by decide +kernel
theorem dX7_arePlaces_17 : decode cX7_arePlaces 17 = .ok (.ifCond .eq 7, 3) := by decide +kernel
theorem dX7_arePlaces_20 : decode cX7_arePlaces 20 = .ok (.iconst 1, 1) := by decide +kernel
theorem dX7_arePlaces_21 : decode cX7_arePlaces 21 = .ok (.goto 4, 3) := by decide +kernel
theorem dX7_arePlaces_24 : decode cX7_arePlaces 24 = .ok (.iconst 0, 1) := by decide +kernel
theorem dX7_arePlaces_25 : decode cX7_arePlaces 25 = .ok (.ireturn, 1) := by decide +kernel
theorem dX7_as_0 : decode cX7_as 0 = .ok (.aload_n 0, 1) := by decide +kernel
theorem dX7_as_1 : decode cX7_as 1 = .ok (.getfield 10, 3) := by decide +kernel
theorem dX7_as_4 : decode cX7_as 4 = .ok (.iload_n 1, 1) := by decide +kernel
theorem dX7_as_5 : decode cX7_as 5 = .ok (.invokevirtual 85, 3) := by decide +kernel
theorem dX7_as_8 : decode cX7_as 8 = .ok (.ifCond .ne 6, 3) := by decide +kernel
theorem dX7_as_11 : decode cX7_as 11 = .ok (.bipush (-101), 2) := by decide +kernel
theorem dX7_as_13 : decode cX7_as 13 = .ok (.ireturn, 1) := by decide +kernel
theorem dX7_as_14 : decode cX7_as 14 = .ok (.iload_n 2, 1) := by decide +kernel
theorem dX7_as_15 : decode cX7_as 15 = .ok (.iconst 0, 1) := by decide +kernel
theorem dX7_as_16 : decode cX7_as 16 = .ok (.bipush 6, 2) := by decide +kernel
theorem dX7_as_18 : decode cX7_as 18 = .ok (.invokestatic 65, 3) := by decide +kernel
theorem dX7_as_21 : decode cX7_as 21 = .ok (.ifCond .ne 6, 3) := by decide +kernel
theorem dX7_as_24 : decode cX7_as 24 = .ok (.bipush (-102), 2) := by decide +kernel
theorem dX7_as_26 : decode cX7_as 26 = .ok (.ireturn, 1) := by decide +kernel
theorem dX7_as_27 : decode cX7_as 27 = .ok (.aload_n 0, 1) := by decide +kernel
theorem dX7_as_28 : decode cX7_as 28 = .ok (.getfield 10, 3) := by decide +kernel
theorem dX7_as_31 : decode cX7_as 31 = .ok (.iload_n 1, 1) := by decide +kernel
theorem dX7_as_32 : decode cX7_as 32 = .ok (.iconst 1, 1) := by decide +kernel
theorem dX7_as_33 : decode cX7_as 33 = .ok (.invokevirtual 88, 3) := by decide +kernel
theorem dX7_as_36 : decode cX7_as 36 = .ok (.iload_n 2, 1) := by decide +kernel
theorem dX7_as_37 : decode cX7_as 37 = .ok (.invokestatic 92, 3) := by decide +kernel
theorem dX7_as_40 : decode cX7_as 40 = .ok (.ifCond .eq 7, 3) := by decide +kernel
theorem dX7_as_43 : decode cX7_as 43 = .ok (.iload_n 1, 1) := by decide +kernel
theorem dX7_as_44 : decode cX7_as 44 = .ok (.goto 4, 3) := by decide +kernel
theorem dX7_as_47 : decode cX7_as 47 = .ok (.iconst (-1), 1) := by decide +kernel
theorem dX7_as_48 : decode cX7_as 48 = .ok (.ireturn, 1) := by decide +kernel
theorem dX7_at_0 : decode cX7_at 0 = .ok (.aload_n 0, 1) := by decide +kernel
theorem dX7_at_1 : decode cX7_at 1 = .ok (.ifnull 19, 3) := by decide +kernel
theorem dX7_at_4 : decode cX7_at 4 = .ok (.iload_n 1, 1) := by decide +kernel
theorem dX7_at_5 : decode cX7_at 5 = .ok (.ifCond .lt 15, 3) := by decide +kernel
theorem dX7_at_8 : decode cX7_at 8 = .ok (.iload_n 1, 1) := by decide +kernel
theorem dX7_at_9 : decode cX7_at 9 = .ok (.aload_n 0, 1) := by decide +kernel
theorem dX7_at_10 : decode cX7_at 10 = .ok (.arraylength, 1) := by decide +kernel
theorem dX7_at_11 : decode cX7_at 11 = .ok (.if_icmp .ge 9, 3) := by decide +kernel
theorem dX7_at_14 : decode cX7_at 14 = .ok (.aload_n 0, 1) := by decide +kernel
theorem dX7_at_15 : decode cX7_at 15 = .ok (.iload_n 1, 1) := by decide +kernel
theorem dX7_at_16 : decode cX7_at 16 = .ok (.iaload, 1) := by decide +kernel
theorem dX7_at_17 : decode cX7_at 17 = .ok (.goto 4, 3) := by decide +kernel
theorem dX7_at_20 : decode cX7_at 20 = .ok (.iconst (-1), 1) := by decide +kernel
theorem dX7_at_21 : decode cX7_at 21 = .ok (.ireturn, 1) := by decide +kernel
theorem dX7_beliefFor_0 : decode cX7_beliefFor 0 = .ok (.aload_n 0, 1) := by decide +kernel
theorem dX7_beliefFor_1 : decode cX7_beliefFor 1 = .ok (.getfield 41, 3) := by decide +kernel
theorem dX7_beliefFor_4 : decode cX7_beliefFor 4 = .ok (.aload_n 0, 1) := by decide +kernel
theorem dX7_beliefFor_5 : decode cX7_beliefFor 5 = .ok (.getfield 10, 3) := by decide +kernel
theorem dX7_beliefFor_8 : decode cX7_beliefFor 8 = .ok (.aload_n 0, 1) := by decide +kernel
theorem dX7_beliefFor_9 : decode cX7_beliefFor 9 = .ok (.getfield 21, 3) := by decide +kernel
theorem dX7_beliefFor_12 : decode cX7_beliefFor 12 = .ok (.iload_n 2, 1) := by decide +kernel
theorem dX7_beliefFor_13 : decode cX7_beliefFor 13 = .ok (.iconst 1, 1) := by decide +kernel
theorem dX7_beliefFor_14 : decode cX7_beliefFor 14 = .ok (.invokevirtual 138, 3) := by decide +kernel
theorem dX7_beliefFor_17 : decode cX7_beliefFor 17 = .ok (.iconst 0, 1) := by decide +kernel
theorem dX7_beliefFor_18 : decode cX7_beliefFor 18 = .ok (.invokevirtual 88, 3) := by decide +kernel
theorem dX7_beliefFor_21 : decode cX7_beliefFor 21 = .ok (.aload_n 0, 1) := by decide +kernel
theorem dX7_beliefFor_22 : decode cX7_beliefFor 22 = .ok (.getfield 21, 3) := by decide +kernel
theorem dX7_beliefFor_25 : decode cX7_beliefFor 25 = .ok (.iload_n 2, 1) := by decide +kernel
theorem dX7_beliefFor_26 : decode cX7_beliefFor 26 = .ok (.iconst 0, 1) := by decide +kernel
theorem dX7_beliefFor_27 : decode cX7_beliefFor 27 = .ok (.invokevirtual 138, 3) := by decide +kernel
theorem dX7_beliefFor_30 : decode cX7_beliefFor 30 = .ok (.aload_n 0, 1) := by decide +kernel
theorem dX7_beliefFor_31 : decode cX7_beliefFor 31 = .ok (.getfield 21, 3) := by decide +kernel
theorem dX7_beliefFor_34 : decode cX7_beliefFor 34 = .ok (.iload_n 2, 1) := by decide +kernel
theorem dX7_beliefFor_35 : decode cX7_beliefFor 35 = .ok (.iconst 2, 1) := by decide +kernel
theorem dX7_beliefFor_36 : decode cX7_beliefFor 36 = .ok (.invokevirtual 138, 3) := by decide +kernel
theorem dX7_beliefFor_39 : decode cX7_beliefFor 39 = .ok (.iload_n 2, 1) := by decide +kernel
theorem dX7_beliefFor_40 : decode cX7_beliefFor 40 = .ok (.invokevirtual 261, 3) := by decide +kernel
theorem dX7_beliefFor_43 : decode cX7_beliefFor 43 = .ok (.aload_n 0, 1) := by decide +kernel
theorem dX7_beliefFor_44 : decode cX7_beliefFor 44 = .ok (.iload_n 1, 1) := by decide +kernel
theorem dX7_beliefFor_45 : decode cX7_beliefFor 45 = .ok (.invokevirtual 167, 3) := by decide +kernel
theorem dX7_beliefFor_48 : decode cX7_beliefFor 48 = .ok (.bipush 66, 2) := by decide +kernel
theorem dX7_beliefFor_50 : decode cX7_beliefFor 50 = .ok (.aload_n 0, 1) := by decide +kernel
theorem dX7_beliefFor_51 : decode cX7_beliefFor 51 = .ok (.getfield 41, 3) := by decide +kernel
theorem dX7_beliefFor_54 : decode cX7_beliefFor 54 = .ok (.iconst 1, 1) := by decide +kernel
theorem dX7_beliefFor_55 : decode cX7_beliefFor 55 = .ok (.invokevirtual 265, 3) := by decide +kernel
theorem dX7_beliefFor_58 : decode cX7_beliefFor 58 = .ok (.ireturn, 1) := by decide +kernel
theorem dX7_believedBy_0 : decode cX7_believedBy 0 = .ok (.iconst 0, 1) := by decide +kernel
theorem dX7_believedBy_1 : decode cX7_believedBy 1 = .ok (.istore_n 3, 1) := by decide +kernel
theorem dX7_believedBy_2 : decode cX7_believedBy 2 = .ok (.iconst 0, 1) := by decide +kernel
theorem dX7_believedBy_3 : decode cX7_believedBy 3 = .ok (.istore 4, 2) := by decide +kernel
theorem dX7_believedBy_5 : decode cX7_believedBy 5 = .ok (.iload 4, 2) := by decide +kernel
theorem dX7_believedBy_7 : decode cX7_believedBy 7 = .ok (.aload_n 0, 1) := by decide +kernel
theorem dX7_believedBy_8 : decode cX7_believedBy 8 = .ok (.getfield 21, 3) := by decide +kernel
theorem dX7_believedBy_11 : decode cX7_believedBy 11 = .ok (.invokevirtual 139, 3) := by decide +kernel
theorem dX7_believedBy_14 : decode cX7_believedBy 14 = .ok (.if_icmp .ge 44, 3) := by decide +kernel
theorem dX7_believedBy_17 : decode cX7_believedBy 17 = .ok (.aload_n 0, 1) := by decide +kernel
theorem dX7_believedBy_18 : decode cX7_believedBy 18 = .ok (.getfield 21, 3) := by decide +kernel
theorem dX7_believedBy_21 : decode cX7_believedBy 21 = .ok (.iload 4, 2) := by decide +kernel
theorem dX7_believedBy_23 : decode cX7_believedBy 23 = .ok (.iload_n 2, 1) := by decide +kernel
theorem dX7_believedBy_24 : decode cX7_believedBy 24 = .ok (.aload_n 0, 1) := by decide +kernel
theorem dX7_believedBy_25 : decode cX7_believedBy 25 = .ok (.getfield 10, 3) := by decide +kernel
theorem dX7_believedBy_28 : decode cX7_believedBy 28 = .ok (.invokevirtual 269, 3) := by decide +kernel
theorem dX7_believedBy_31 : decode cX7_believedBy 31 = .ok (.ifCond .eq 21, 3) := by decide +kernel
theorem dX7_believedBy_34 : decode cX7_believedBy 34 = .ok (.aload_n 0, 1) := by decide +kernel
theorem dX7_believedBy_35 : decode cX7_believedBy 35 = .ok (.iload_n 1, 1) := by decide +kernel
theorem dX7_believedBy_36 : decode cX7_believedBy 36 = .ok (.iload 4, 2) := by decide +kernel
theorem dX7_believedBy_38 : decode cX7_believedBy 38 = .ok (.invokevirtual 183, 3) := by decide +kernel
theorem dX7_believedBy_41 : decode cX7_believedBy 41 = .ok (.iconst 1, 1) := by decide +kernel
theorem dX7_believedBy_42 : decode cX7_believedBy 42 = .ok (.if_icmp .ne 10, 3) := by decide +kernel
theorem dX7_believedBy_45 : decode cX7_believedBy 45 = .ok (.iload_n 3, 1) := by decide +kernel
theorem dX7_believedBy_46 : decode cX7_believedBy 46 = .ok (.iconst 1, 1) := by decide +kernel
theorem dX7_believedBy_47 : decode cX7_believedBy 47 = .ok (.iload 4, 2) := by decide +kernel
theorem dX7_believedBy_49 : decode cX7_believedBy 49 = .ok (.ishl, 1) := by decide +kernel
theorem dX7_believedBy_50 : decode cX7_believedBy 50 = .ok (.ior, 1) := by decide +kernel
theorem dX7_believedBy_51 : decode cX7_believedBy 51 = .ok (.istore_n 3, 1) := by decide +kernel
theorem dX7_believedBy_52 : decode cX7_believedBy 52 = .ok (.iinc 4 1, 3) := by decide +kernel
theorem dX7_believedBy_55 : decode cX7_believedBy 55 = .ok (.goto (-50), 3) := by decide +kernel
theorem dX7_believedBy_58 : decode cX7_believedBy 58 = .ok (.iload_n 3, 1) := by decide +kernel
theorem dX7_believedBy_59 : decode cX7_believedBy 59 = .ok (.ireturn, 1) := by decide +kernel
theorem dX7_believes_0 : decode cX7_believes 0 = .ok (.iload_n 1, 1) := by decide +kernel
theorem dX7_believes_1 : decode cX7_believes 1 = .ok (.invokestatic 161, 3) := by decide +kernel
theorem dX7_believes_4 : decode cX7_believes 4 = .ok (.ifCond .eq 14, 3) := by decide +kernel
theorem dX7_believes_7 : decode cX7_believes 7 = .ok (.aload_n 0, 1) := by decide +kernel
theorem dX7_believes_8 : decode cX7_believes 8 = .ok (.getfield 21, 3) := by decide +kernel
theorem dX7_believes_11 : decode cX7_believes 11 = .ok (.iload_n 2, 1) := by decide +kernel
theorem dX7_believes_12 : decode cX7_believes 12 = .ok (.invokevirtual 137, 3) := by decide +kernel
theorem dX7_believes_15 : decode cX7_believes 15 = .ok (.ifCond .ne 6, 3) := by decide +kernel
theorem dX7_believes_18 : decode cX7_believes 18 = .ok (.bipush (-101), 2) := by decide +kernel
theorem dX7_believes_20 : decode cX7_believes 20 = .ok (.ireturn, 1) := by decide +kernel
theorem dX7_believes_21 : decode cX7_believes 21 = .ok (.aload_n 0, 1) := by decide +kernel
theorem dX7_believes_22 : decode cX7_believes 22 = .ok (.iload_n 1, 1) := by decide +kernel
theorem dX7_believes_23 : decode cX7_believes 23 = .ok (.iload_n 2, 1) := by decide +kernel
theorem dX7_believes_24 : decode cX7_believes 24 = .ok (.invokevirtual 183, 3) := by decide +kernel
theorem dX7_believes_27 : decode cX7_believes 27 = .ok (.ireturn, 1) := by decide +kernel
theorem dX7_best_0 : decode cX7_best 0 = .ok (.iload_n 1, 1) := by decide +kernel
theorem dX7_best_1 : decode cX7_best 1 = .ok (.iload_n 2, 1) := by decide +kernel
theorem dX7_best_2 : decode cX7_best 2 = .ok (.invokestatic 186, 3) := by decide +kernel
theorem dX7_best_5 : decode cX7_best 5 = .ok (.istore_n 3, 1) := by decide +kernel
theorem dX7_best_6 : decode cX7_best 6 = .ok (.iload_n 3, 1) := by decide +kernel
theorem dX7_best_7 : decode cX7_best 7 = .ok (.ifCond .eq 5, 3) := by decide +kernel
theorem dX7_best_10 : decode cX7_best 10 = .ok (.iload_n 3, 1) := by decide +kernel
theorem dX7_best_11 : decode cX7_best 11 = .ok (.ireturn, 1) := by decide +kernel
theorem dX7_best_12 : decode cX7_best 12 = .ok (.aload_n 0, 1) := by decide +kernel
theorem dX7_best_13 : decode cX7_best 13 = .ok (.iload_n 1, 1) := by decide +kernel
theorem dX7_best_14 : decode cX7_best 14 = .ok (.iload_n 2, 1) := by decide +kernel
theorem dX7_best_15 : decode cX7_best 15 = .ok (.invokevirtual 189, 3) := by decide +kernel
theorem dX7_best_18 : decode cX7_best 18 = .ok (.istore 4, 2) := by decide +kernel
theorem dX7_best_20 : decode cX7_best 20 = .ok (.aload_n 0, 1) := by decide +kernel
theorem dX7_best_21 : decode cX7_best 21 = .ok (.getfield 57, 3) := by decide +kernel
theorem dX7_best_24 : decode cX7_best 24 = .ok (.iload 4, 2) := by decide +kernel
theorem dX7_best_26 : decode cX7_best 26 = .ok (.iconst (-1), 1) := by decide +kernel
theorem dX7_best_27 : decode cX7_best 27 = .ok (.iconst 1, 1) := by decide +kernel
theorem dX7_best_28 : decode cX7_best 28 = .ok (.invokevirtual 192, 3) := by decide +kernel
theorem dX7_best_31 : decode cX7_best 31 = .ok (.ifCond .eq 13, 3) := by decide +kernel
theorem dX7_best_34 : decode cX7_best 34 = .ok (.aload_n 0, 1) := by decide +kernel
theorem dX7_best_35 : decode cX7_best 35 = .ok (.getfield 57, 3) := by decide +kernel
theorem dX7_best_38 : decode cX7_best 38 = .ok (.invokevirtual 212, 3) := by decide +kernel
theorem dX7_best_41 : decode cX7_best 41 = .ok (.goto 4, 3) := by decide +kernel
theorem dX7_best_44 : decode cX7_best 44 = .ok (.iconst (-1), 1) := by decide +kernel
theorem dX7_best_45 : decode cX7_best 45 = .ok (.istore 5, 2) := by decide +kernel
theorem dX7_best_47 : decode cX7_best 47 = .ok (.iconst (-1), 1) := by decide +kernel
theorem dX7_best_48 : decode cX7_best 48 = .ok (.istore 6, 2) := by decide +kernel
theorem dX7_best_50 : decode cX7_best 50 = .ok (.iconst (-1), 1) := by decide +kernel
theorem dX7_best_51 : decode cX7_best 51 = .ok (.istore 7, 2) := by decide +kernel
theorem dX7_best_53 : decode cX7_best 53 = .ok (.iconst 0, 1) := by decide +kernel
theorem dX7_best_54 : decode cX7_best 54 = .ok (.istore 8, 2) := by decide +kernel
theorem dX7_best_56 : decode cX7_best 56 = .ok (.iload 8, 2) := by decide +kernel
theorem dX7_best_58 : decode cX7_best 58 = .ok (.aload_n 0, 1) := by decide +kernel
theorem dX7_best_59 : decode cX7_best 59 = .ok (.getfield 25, 3) := by decide +kernel
theorem dX7_best_62 : decode cX7_best 62 = .ok (.invokevirtual 139, 3) := by decide +kernel
theorem dX7_best_65 : decode cX7_best 65 = .ok (.if_icmp .ge 43, 3) := by decide +kernel
theorem dX7_best_68 : decode cX7_best 68 = .ok (.iload 5, 2) := by decide +kernel
theorem dX7_best_70 : decode cX7_best 70 = .ok (.iconst (-1), 1) := by decide +kernel
theorem dX7_best_71 : decode cX7_best 71 = .ok (.if_icmp .eq 37, 3) := by decide +kernel
theorem dX7_best_74 : decode cX7_best 74 = .ok (.aload_n 0, 1) := by decide +kernel
theorem dX7_best_75 : decode cX7_best 75 = .ok (.iload 4, 2) := by decide +kernel
theorem dX7_best_77 : decode cX7_best 77 = .ok (.iload_n 2, 1) := by decide +kernel
theorem dX7_best_78 : decode cX7_best 78 = .ok (.iload 8, 2) := by decide +kernel
theorem dX7_best_80 : decode cX7_best 80 = .ok (.iload 5, 2) := by decide +kernel
theorem dX7_best_82 : decode cX7_best 82 = .ok (.invokevirtual 221, 3) := by decide +kernel
theorem dX7_best_85 : decode cX7_best 85 = .ok (.istore 9, 2) := by decide +kernel
theorem dX7_best_87 : decode cX7_best 87 = .ok (.iload 9, 2) := by decide +kernel
theorem dX7_best_89 : decode cX7_best 89 = .ok (.iload 7, 2) := by decide +kernel
theorem dX7_best_91 : decode cX7_best 91 = .ok (.if_icmp .le 11, 3) := by decide +kernel
theorem dX7_best_94 : decode cX7_best 94 = .ok (.iload 9, 2) := by decide +kernel
theorem dX7_best_96 : decode cX7_best 96 = .ok (.istore 7, 2) := by decide +kernel
theorem dX7_best_98 : decode cX7_best 98 = .ok (.iload 8, 2) := by decide +kernel
theorem dX7_best_100 : decode cX7_best 100 = .ok (.istore 6, 2) := by decide +kernel
theorem dX7_best_102 : decode cX7_best 102 = .ok (.iinc 8 1, 3) := by decide +kernel
theorem dX7_best_105 : decode cX7_best 105 = .ok (.goto (-49), 3) := by decide +kernel
theorem dX7_best_108 : decode cX7_best 108 = .ok (.iload 6, 2) := by decide +kernel
theorem dX7_best_110 : decode cX7_best 110 = .ok (.ireturn, 1) := by decide +kernel
theorem dX7_blank_0 : decode cX7_blank 0 = .ok (.aload_n 0, 1) := by decide +kernel
theorem dX7_blank_1 : decode cX7_blank 1 = .ok (.getfield 48, 3) := by decide +kernel
theorem dX7_blank_4 : decode cX7_blank 4 = .ok (.invokevirtual 155, 3) := by decide +kernel
theorem dX7_blank_7 : decode cX7_blank 7 = .ok (.ireturn, 1) := by decide +kernel
theorem dX7_can_0 : decode cX7_can 0 = .ok (.iload_n 1, 1) := by decide +kernel
theorem dX7_can_1 : decode cX7_can 1 = .ok (.iload_n 2, 1) := by decide +kernel
theorem dX7_can_2 : decode cX7_can 2 = .ok (.invokestatic 186, 3) := by decide +kernel
theorem dX7_can_5 : decode cX7_can 5 = .ok (.istore_n 3, 1) := by decide +kernel
theorem dX7_can_6 : decode cX7_can 6 = .ok (.iload_n 3, 1) := by decide +kernel
theorem dX7_can_7 : decode cX7_can 7 = .ok (.ifCond .eq 5, 3) := by decide +kernel
theorem dX7_can_10 : decode cX7_can 10 = .ok (.iload_n 3, 1) := by decide +kernel
theorem dX7_can_11 : decode cX7_can 11 = .ok (.ireturn, 1) := by decide +kernel
theorem dX7_can_12 : decode cX7_can 12 = .ok (.aload_n 0, 1) := by decide +kernel
theorem dX7_can_13 : decode cX7_can 13 = .ok (.getfield 57, 3) := by decide +kernel
theorem dX7_can_16 : decode cX7_can 16 = .ok (.aload_n 0, 1) := by decide +kernel
theorem dX7_can_17 : decode cX7_can 17 = .ok (.iload_n 1, 1) := by decide +kernel
theorem dX7_can_18 : decode cX7_can 18 = .ok (.iload_n 2, 1) := by decide +kernel
theorem dX7_can_19 : decode cX7_can 19 = .ok (.invokevirtual 189, 3) := by decide +kernel
theorem dX7_can_22 : decode cX7_can 22 = .ok (.iconst (-1), 1) := by decide +kernel
theorem dX7_can_23 : decode cX7_can 23 = .ok (.iconst 0, 1) := by decide +kernel
theorem dX7_can_24 : decode cX7_can 24 = .ok (.invokevirtual 192, 3) := by decide +kernel
theorem dX7_can_27 : decode cX7_can 27 = .ok (.ifCond .eq 7, 3) := by decide +kernel
theorem dX7_can_30 : decode cX7_can 30 = .ok (.iconst 1, 1) := by decide +kernel
theorem dX7_can_31 : decode cX7_can 31 = .ok (.goto 4, 3) := by decide +kernel
theorem dX7_can_34 : decode cX7_can 34 = .ok (.iconst 0, 1) := by decide +kernel
theorem dX7_can_35 : decode cX7_can 35 = .ok (.ireturn, 1) := by decide +kernel
theorem dX7_closes_0 : decode cX7_closes 0 = .ok (.iload_n 1, 1) := by decide +kernel
theorem dX7_closes_1 : decode cX7_closes 1 = .ok (.iload_n 2, 1) := by decide +kernel
theorem dX7_closes_2 : decode cX7_closes 2 = .ok (.invokestatic 186, 3) := by decide +kernel
theorem dX7_closes_5 : decode cX7_closes 5 = .ok (.istore 4, 2) := by decide +kernel
theorem dX7_closes_7 : decode cX7_closes 7 = .ok (.iload 4, 2) := by decide +kernel
theorem dX7_closes_9 : decode cX7_closes 9 = .ok (.ifCond .eq 6, 3) := by decide +kernel
theorem dX7_closes_12 : decode cX7_closes 12 = .ok (.iload 4, 2) := by decide +kernel
theorem dX7_closes_14 : decode cX7_closes 14 = .ok (.ireturn, 1) := by decide +kernel
theorem dX7_closes_15 : decode cX7_closes 15 = .ok (.aload_n 0, 1) := by decide +kernel
theorem dX7_closes_16 : decode cX7_closes 16 = .ok (.getfield 25, 3) := by decide +kernel
theorem dX7_closes_19 : decode cX7_closes 19 = .ok (.iload_n 3, 1) := by decide +kernel
theorem dX7_closes_20 : decode cX7_closes 20 = .ok (.invokevirtual 137, 3) := by decide +kernel
theorem dX7_closes_23 : decode cX7_closes 23 = .ok (.ifCond .ne 6, 3) := by decide +kernel
theorem dX7_closes_26 : decode cX7_closes 26 = .ok (.bipush (-101), 2) := by decide +kernel
theorem dX7_closes_28 : decode cX7_closes 28 = .ok (.ireturn, 1) := by decide +kernel
theorem dX7_closes_29 : decode cX7_closes 29 = .ok (.aload_n 0, 1) := by decide +kernel
theorem dX7_closes_30 : decode cX7_closes 30 = .ok (.iload_n 1, 1) := by decide +kernel
theorem dX7_closes_31 : decode cX7_closes 31 = .ok (.iload_n 2, 1) := by decide +kernel
theorem dX7_closes_32 : decode cX7_closes 32 = .ok (.invokevirtual 189, 3) := by decide +kernel
theorem dX7_closes_35 : decode cX7_closes 35 = .ok (.istore 5, 2) := by decide +kernel
theorem dX7_closes_37 : decode cX7_closes 37 = .ok (.aload_n 0, 1) := by decide +kernel
theorem dX7_closes_38 : decode cX7_closes 38 = .ok (.getfield 57, 3) := by decide +kernel
theorem dX7_closes_41 : decode cX7_closes 41 = .ok (.iload 5, 2) := by decide +kernel
theorem dX7_closes_43 : decode cX7_closes 43 = .ok (.iconst (-1), 1) := by decide +kernel
theorem dX7_closes_44 : decode cX7_closes 44 = .ok (.iconst 1, 1) := by decide +kernel
theorem dX7_closes_45 : decode cX7_closes 45 = .ok (.invokevirtual 192, 3) := by decide +kernel
theorem dX7_closes_48 : decode cX7_closes 48 = .ok (.ifCond .eq 21, 3) := by decide +kernel
theorem dX7_closes_51 : decode cX7_closes 51 = .ok (.aload_n 0, 1) := by decide +kernel
theorem dX7_closes_52 : decode cX7_closes 52 = .ok (.iload 5, 2) := by decide +kernel
theorem dX7_closes_54 : decode cX7_closes 54 = .ok (.iload_n 2, 1) := by decide +kernel
theorem dX7_closes_55 : decode cX7_closes 55 = .ok (.iload_n 3, 1) := by decide +kernel
theorem dX7_closes_56 : decode cX7_closes 56 = .ok (.aload_n 0, 1) := by decide +kernel
theorem dX7_closes_57 : decode cX7_closes 57 = .ok (.getfield 57, 3) := by decide +kernel
theorem dX7_closes_60 : decode cX7_closes 60 = .ok (.invokevirtual 212, 3) := by decide +kernel
theorem dX7_closes_63 : decode cX7_closes 63 = .ok (.invokevirtual 221, 3) := by decide +kernel
theorem dX7_closes_66 : decode cX7_closes 66 = .ok (.goto 4, 3) := by decide +kernel
theorem dX7_closes_69 : decode cX7_closes 69 = .ok (.iconst (-1), 1) := by decide +kernel
theorem dX7_closes_70 : decode cX7_closes 70 = .ok (.ireturn, 1) := by decide +kernel
theorem dX7_count_0 : decode cX7_count 0 = .ok (.iload_n 1, 1) := by decide +kernel
theorem dX7_count_1 : decode cX7_count 1 = .ok (.tableswitch 96 0 6 #[43, 51, 59, 67, 75, 83, 91], 43) := by decide +kernel
theorem dX7_count_44 : decode cX7_count 44 = .ok (.aload_n 0, 1) := by decide +kernel
theorem dX7_count_45 : decode cX7_count 45 = .ok (.getfield 10, 3) := by decide +kernel
theorem dX7_count_48 : decode cX7_count 48 = .ok (.invokevirtual 227, 3) := by decide +kernel
theorem dX7_count_51 : decode cX7_count 51 = .ok (.ireturn, 1) := by decide +kernel
theorem dX7_count_52 : decode cX7_count 52 = .ok (.aload_n 0, 1) := by decide +kernel
theorem dX7_count_53 : decode cX7_count 53 = .ok (.getfield 21, 3) := by decide +kernel
theorem dX7_count_56 : decode cX7_count 56 = .ok (.invokevirtual 139, 3) := by decide +kernel
theorem dX7_count_59 : decode cX7_count 59 = .ok (.ireturn, 1) := by decide +kernel
theorem dX7_count_60 : decode cX7_count 60 = .ok (.aload_n 0, 1) := by decide +kernel
theorem dX7_count_61 : decode cX7_count 61 = .ok (.getfield 31, 3) := by decide +kernel
theorem dX7_count_64 : decode cX7_count 64 = .ok (.invokevirtual 176, 3) := by decide +kernel
theorem dX7_count_67 : decode cX7_count 67 = .ok (.ireturn, 1) := by decide +kernel
theorem dX7_count_68 : decode cX7_count 68 = .ok (.aload_n 0, 1) := by decide +kernel
theorem dX7_count_69 : decode cX7_count 69 = .ok (.getfield 35, 3) := by decide +kernel
theorem dX7_count_72 : decode cX7_count 72 = .ok (.invokevirtual 176, 3) := by decide +kernel
theorem dX7_count_75 : decode cX7_count 75 = .ok (.ireturn, 1) := by decide +kernel
theorem dX7_count_76 : decode cX7_count 76 = .ok (.aload_n 0, 1) := by decide +kernel
theorem dX7_count_77 : decode cX7_count 77 = .ok (.getfield 48, 3) := by decide +kernel
theorem dX7_count_80 : decode cX7_count 80 = .ok (.invokevirtual 150, 3) := by decide +kernel
theorem dX7_count_83 : decode cX7_count 83 = .ok (.ireturn, 1) := by decide +kernel
theorem dX7_count_84 : decode cX7_count 84 = .ok (.aload_n 0, 1) := by decide +kernel
theorem dX7_count_85 : decode cX7_count 85 = .ok (.getfield 25, 3) := by decide +kernel
theorem dX7_count_88 : decode cX7_count 88 = .ok (.invokevirtual 139, 3) := by decide +kernel
theorem dX7_count_91 : decode cX7_count 91 = .ok (.ireturn, 1) := by decide +kernel
theorem dX7_count_92 : decode cX7_count 92 = .ok (.aload_n 0, 1) := by decide +kernel
theorem dX7_count_93 : decode cX7_count 93 = .ok (.getfield 61, 3) := by decide +kernel
theorem dX7_count_96 : decode cX7_count 96 = .ok (.ireturn, 1) := by decide +kernel
theorem dX7_count_97 : decode cX7_count 97 = .ok (.bipush (-102), 2) := by decide +kernel
theorem dX7_count_99 : decode cX7_count 99 = .ok (.ireturn, 1) := by decide +kernel
theorem dX7_countFor_0 : decode cX7_countFor 0 = .ok (.aload_n 0, 1) := by decide +kernel
theorem dX7_countFor_1 : decode cX7_countFor 1 = .ok (.getfield 41, 3) := by decide +kernel
theorem dX7_countFor_4 : decode cX7_countFor 4 = .ok (.aload_n 0, 1) := by decide +kernel
theorem dX7_countFor_5 : decode cX7_countFor 5 = .ok (.getfield 10, 3) := by decide +kernel
theorem dX7_countFor_8 : decode cX7_countFor 8 = .ok (.iload_n 2, 1) := by decide +kernel
theorem dX7_countFor_9 : decode cX7_countFor 9 = .ok (.iconst 0, 1) := by decide +kernel
theorem dX7_countFor_10 : decode cX7_countFor 10 = .ok (.invokevirtual 88, 3) := by decide +kernel
theorem dX7_countFor_13 : decode cX7_countFor 13 = .ok (.aload_n 0, 1) := by decide +kernel
theorem dX7_countFor_14 : decode cX7_countFor 14 = .ok (.getfield 10, 3) := by decide +kernel
theorem dX7_countFor_17 : decode cX7_countFor 17 = .ok (.iload_n 2, 1) := by decide +kernel
theorem dX7_countFor_18 : decode cX7_countFor 18 = .ok (.iconst 1, 1) := by decide +kernel
theorem dX7_countFor_19 : decode cX7_countFor 19 = .ok (.invokevirtual 88, 3) := by decide +kernel
theorem dX7_countFor_22 : decode cX7_countFor 22 = .ok (.aload_n 0, 1) := by decide +kernel
theorem dX7_countFor_23 : decode cX7_countFor 23 = .ok (.getfield 10, 3) := by decide +kernel
theorem dX7_countFor_26 : decode cX7_countFor 26 = .ok (.iload_n 2, 1) := by decide +kernel
theorem dX7_countFor_27 : decode cX7_countFor 27 = .ok (.iconst 2, 1) := by decide +kernel
theorem dX7_countFor_28 : decode cX7_countFor 28 = .ok (.invokevirtual 88, 3) := by decide +kernel
theorem dX7_countFor_31 : decode cX7_countFor 31 = .ok (.iload_n 2, 1) := by decide +kernel
theorem dX7_countFor_32 : decode cX7_countFor 32 = .ok (.invokevirtual 261, 3) := by decide +kernel
theorem dX7_countFor_35 : decode cX7_countFor 35 = .ok (.aload_n 0, 1) := by decide +kernel
theorem dX7_countFor_36 : decode cX7_countFor 36 = .ok (.iload_n 1, 1) := by decide +kernel
theorem dX7_countFor_37 : decode cX7_countFor 37 = .ok (.invokevirtual 167, 3) := by decide +kernel
theorem dX7_countFor_40 : decode cX7_countFor 40 = .ok (.bipush 67, 2) := by decide +kernel
theorem dX7_countFor_42 : decode cX7_countFor 42 = .ok (.aload_n 0, 1) := by decide +kernel
theorem dX7_countFor_43 : decode cX7_countFor 43 = .ok (.getfield 41, 3) := by decide +kernel
theorem dX7_countFor_46 : decode cX7_countFor 46 = .ok (.iconst 0, 1) := by decide +kernel
theorem dX7_countFor_47 : decode cX7_countFor 47 = .ok (.invokevirtual 265, 3) := by decide +kernel
theorem dX7_countFor_50 : decode cX7_countFor 50 = .ok (.ireturn, 1) := by decide +kernel
theorem dX7_counts_0 : decode cX7_counts 0 = .ok (.iload_n 1, 1) := by decide +kernel
theorem dX7_counts_1 : decode cX7_counts 1 = .ok (.invokestatic 161, 3) := by decide +kernel
theorem dX7_counts_4 : decode cX7_counts 4 = .ok (.ifCond .eq 14, 3) := by decide +kernel
theorem dX7_counts_7 : decode cX7_counts 7 = .ok (.aload_n 0, 1) := by decide +kernel
theorem dX7_counts_8 : decode cX7_counts 8 = .ok (.getfield 10, 3) := by decide +kernel
theorem dX7_counts_11 : decode cX7_counts 11 = .ok (.iload_n 2, 1) := by decide +kernel
theorem dX7_counts_12 : decode cX7_counts 12 = .ok (.invokevirtual 85, 3) := by decide +kernel
theorem dX7_counts_15 : decode cX7_counts 15 = .ok (.ifCond .ne 6, 3) := by decide +kernel
theorem dX7_counts_18 : decode cX7_counts 18 = .ok (.bipush (-101), 2) := by decide +kernel
theorem dX7_counts_20 : decode cX7_counts 20 = .ok (.ireturn, 1) := by decide +kernel
theorem dX7_counts_21 : decode cX7_counts 21 = .ok (.aload_n 0, 1) := by decide +kernel
theorem dX7_counts_22 : decode cX7_counts 22 = .ok (.iload_n 1, 1) := by decide +kernel
theorem dX7_counts_23 : decode cX7_counts 23 = .ok (.iload_n 2, 1) := by decide +kernel
theorem dX7_counts_24 : decode cX7_counts 24 = .ok (.invokevirtual 180, 3) := by decide +kernel
theorem dX7_counts_27 : decode cX7_counts 27 = .ok (.ireturn, 1) := by decide +kernel
theorem dX7_digest_0 : decode cX7_digest 0 = .ok (.aload_n 0, 1) := by decide +kernel
theorem dX7_digest_1 : decode cX7_digest 1 = .ok (.getfield 21, 3) := by decide +kernel
theorem dX7_digest_4 : decode cX7_digest 4 = .ok (.aload_n 0, 1) := by decide +kernel
theorem dX7_digest_5 : decode cX7_digest 5 = .ok (.getfield 10, 3) := by decide +kernel
theorem dX7_digest_8 : decode cX7_digest 8 = .ok (.ldc2_w 235, 3) := by decide +kernel
theorem dX7_digest_11 : decode cX7_digest 11 = .ok (.invokevirtual 237, 3) := by decide +kernel
theorem dX7_digest_14 : decode cX7_digest 14 = .ok (.invokevirtual 241, 3) := by decide +kernel
theorem dX7_digest_17 : decode cX7_digest 17 = .ok (.lstore_n 1, 1) := by decide +kernel
theorem dX7_digest_18 : decode cX7_digest 18 = .ok (.iconst 0, 1) := by decide +kernel
theorem dX7_digest_19 : decode cX7_digest 19 = .ok (.istore_n 3, 1) := by decide +kernel
theorem dX7_digest_20 : decode cX7_digest 20 = .ok (.iload_n 3, 1) := by decide +kernel
theorem dX7_digest_21 : decode cX7_digest 21 = .ok (.iconst 2, 1) := by decide +kernel
theorem dX7_digest_22 : decode cX7_digest 22 = .ok (.if_icmp .ge 46, 3) := by decide +kernel
theorem dX7_digest_25 : decode cX7_digest 25 = .ok (.aload_n 0, 1) := by decide +kernel
theorem dX7_digest_26 : decode cX7_digest 26 = .ok (.lload_n 1, 1) := by decide +kernel
theorem dX7_digest_27 : decode cX7_digest 27 = .ok (.iload_n 3, 1) := by decide +kernel
theorem dX7_digest_28 : decode cX7_digest 28 = .ok (.invokevirtual 242, 3) := by decide +kernel
theorem dX7_digest_31 : decode cX7_digest 31 = .ok (.lstore_n 1, 1) := by decide +kernel
theorem dX7_digest_32 : decode cX7_digest 32 = .ok (.ldc2_w 246, 3) := by decide +kernel
theorem dX7_digest_35 : decode cX7_digest 35 = .ok (.lload_n 1, 1) := by decide +kernel
theorem dX7_digest_36 : decode cX7_digest 36 = .ok (.lmul, 1) := by decide +kernel
theorem dX7_digest_37 : decode cX7_digest 37 = .ok (.aload_n 0, 1) := by decide +kernel
theorem dX7_digest_38 : decode cX7_digest 38 = .ok (.iload_n 3, 1) := by decide +kernel
theorem dX7_digest_39 : decode cX7_digest 39 = .ok (.bipush 9, 2) := by decide +kernel
theorem dX7_digest_41 : decode cX7_digest 41 = .ok (.invokevirtual 248, 3) := by decide +kernel
theorem dX7_digest_44 : decode cX7_digest 44 = .ok (.i2l, 1) := by decide +kernel
theorem dX7_digest_45 : decode cX7_digest 45 = .ok (.ladd, 1) := by decide +kernel
theorem dX7_digest_46 : decode cX7_digest 46 = .ok (.lstore_n 1, 1) := by decide +kernel
theorem dX7_digest_47 : decode cX7_digest 47 = .ok (.ldc2_w 246, 3) := by decide +kernel
theorem dX7_digest_50 : decode cX7_digest 50 = .ok (.lload_n 1, 1) := by decide +kernel
theorem dX7_digest_51 : decode cX7_digest 51 = .ok (.lmul, 1) := by decide +kernel
theorem dX7_digest_52 : decode cX7_digest 52 = .ok (.aload_n 0, 1) := by decide +kernel
theorem dX7_digest_53 : decode cX7_digest 53 = .ok (.iload_n 3, 1) := by decide +kernel
theorem dX7_digest_54 : decode cX7_digest 54 = .ok (.bipush 9, 2) := by decide +kernel
theorem dX7_digest_56 : decode cX7_digest 56 = .ok (.invokevirtual 251, 3) := by decide +kernel
theorem dX7_digest_59 : decode cX7_digest 59 = .ok (.i2l, 1) := by decide +kernel
theorem dX7_digest_60 : decode cX7_digest 60 = .ok (.ladd, 1) := by decide +kernel
theorem dX7_digest_61 : decode cX7_digest 61 = .ok (.lstore_n 1, 1) := by decide +kernel
theorem dX7_digest_62 : decode cX7_digest 62 = .ok (.iinc 3 1, 3) := by decide +kernel
theorem dX7_digest_65 : decode cX7_digest 65 = .ok (.goto (-45), 3) := by decide +kernel
theorem dX7_digest_68 : decode cX7_digest 68 = .ok (.aload_n 0, 1) := by decide +kernel
theorem dX7_digest_69 : decode cX7_digest 69 = .ok (.getfield 48, 3) := by decide +kernel
theorem dX7_digest_72 : decode cX7_digest 72 = .ok (.aload_n 0, 1) := by decide +kernel
theorem dX7_digest_73 : decode cX7_digest 73 = .ok (.getfield 25, 3) := by decide +kernel
theorem dX7_digest_76 : decode cX7_digest 76 = .ok (.lload_n 1, 1) := by decide +kernel
theorem dX7_digest_77 : decode cX7_digest 77 = .ok (.invokevirtual 254, 3) := by decide +kernel
theorem dX7_digest_80 : decode cX7_digest 80 = .ok (.invokevirtual 257, 3) := by decide +kernel
theorem dX7_digest_83 : decode cX7_digest 83 = .ok (.lstore_n 1, 1) := by decide +kernel
theorem dX7_digest_84 : decode cX7_digest 84 = .ok (.iconst 0, 1) := by decide +kernel
theorem dX7_digest_85 : decode cX7_digest 85 = .ok (.istore_n 3, 1) := by decide +kernel
theorem dX7_digest_86 : decode cX7_digest 86 = .ok (.iload_n 3, 1) := by decide +kernel
theorem dX7_digest_87 : decode cX7_digest 87 = .ok (.bipush 6, 2) := by decide +kernel
theorem dX7_digest_89 : decode cX7_digest 89 = .ok (.if_icmp .gt 22, 3) := by decide +kernel
theorem dX7_digest_92 : decode cX7_digest 92 = .ok (.ldc2_w 246, 3) := by decide +kernel
theorem dX7_digest_95 : decode cX7_digest 95 = .ok (.lload_n 1, 1) := by decide +kernel
theorem dX7_digest_96 : decode cX7_digest 96 = .ok (.lmul, 1) := by decide +kernel
theorem dX7_digest_97 : decode cX7_digest 97 = .ok (.aload_n 0, 1) := by decide +kernel
theorem dX7_digest_98 : decode cX7_digest 98 = .ok (.iload_n 3, 1) := by decide +kernel
theorem dX7_digest_99 : decode cX7_digest 99 = .ok (.invokevirtual 258, 3) := by decide +kernel
theorem dX7_digest_102 : decode cX7_digest 102 = .ok (.i2l, 1) := by decide +kernel
theorem dX7_digest_103 : decode cX7_digest 103 = .ok (.ladd, 1) := by decide +kernel
theorem dX7_digest_104 : decode cX7_digest 104 = .ok (.lstore_n 1, 1) := by decide +kernel
theorem dX7_digest_105 : decode cX7_digest 105 = .ok (.iinc 3 1, 3) := by decide +kernel
theorem dX7_digest_108 : decode cX7_digest 108 = .ok (.goto (-22), 3) := by decide +kernel
theorem dX7_digest_111 : decode cX7_digest 111 = .ok (.lload_n 1, 1) := by decide +kernel
theorem dX7_digest_112 : decode cX7_digest 112 = .ok (.lreturn, 1) := by decide +kernel
theorem dX7_doubt_0 : decode cX7_doubt 0 = .ok (.iload_n 1, 1) := by decide +kernel
theorem dX7_doubt_1 : decode cX7_doubt 1 = .ok (.iload_n 2, 1) := by decide +kernel
theorem dX7_doubt_2 : decode cX7_doubt 2 = .ok (.invokestatic 186, 3) := by decide +kernel
theorem dX7_doubt_5 : decode cX7_doubt 5 = .ok (.istore 4, 2) := by decide +kernel
theorem dX7_doubt_7 : decode cX7_doubt 7 = .ok (.iload 4, 2) := by decide +kernel
theorem dX7_doubt_9 : decode cX7_doubt 9 = .ok (.ifCond .eq 6, 3) := by decide +kernel
theorem dX7_doubt_12 : decode cX7_doubt 12 = .ok (.iload 4, 2) := by decide +kernel
theorem dX7_doubt_14 : decode cX7_doubt 14 = .ok (.ireturn, 1) := by decide +kernel
theorem dX7_doubt_15 : decode cX7_doubt 15 = .ok (.iload_n 3, 1) := by decide +kernel
theorem dX7_doubt_16 : decode cX7_doubt 16 = .ok (.iconst 0, 1) := by decide +kernel
theorem dX7_doubt_17 : decode cX7_doubt 17 = .ok (.iconst 1, 1) := by decide +kernel
theorem dX7_doubt_18 : decode cX7_doubt 18 = .ok (.invokestatic 65, 3) := by decide +kernel
theorem dX7_doubt_21 : decode cX7_doubt 21 = .ok (.ifCond .ne 6, 3) := by decide +kernel
theorem dX7_doubt_24 : decode cX7_doubt 24 = .ok (.bipush (-102), 2) := by decide +kernel
theorem dX7_doubt_26 : decode cX7_doubt 26 = .ok (.ireturn, 1) := by decide +kernel
theorem dX7_doubt_27 : decode cX7_doubt 27 = .ok (.aload_n 0, 1) := by decide +kernel
theorem dX7_doubt_28 : decode cX7_doubt 28 = .ok (.getfield 61, 3) := by decide +kernel
theorem dX7_doubt_31 : decode cX7_doubt 31 = .ok (.bipush 10, 2) := by decide +kernel
theorem dX7_doubt_33 : decode cX7_doubt 33 = .ok (.if_icmp .lt 6, 3) := by decide +kernel
theorem dX7_doubt_36 : decode cX7_doubt 36 = .ok (.bipush (-103), 2) := by decide +kernel
theorem dX7_doubt_38 : decode cX7_doubt 38 = .ok (.ireturn, 1) := by decide +kernel
theorem dX7_doubt_39 : decode cX7_doubt 39 = .ok (.aload_n 0, 1) := by decide +kernel
theorem dX7_doubt_40 : decode cX7_doubt 40 = .ok (.dup, 1) := by decide +kernel
theorem dX7_doubt_41 : decode cX7_doubt 41 = .ok (.getfield 61, 3) := by decide +kernel
theorem dX7_doubt_44 : decode cX7_doubt 44 = .ok (.iconst 1, 1) := by decide +kernel
theorem dX7_doubt_45 : decode cX7_doubt 45 = .ok (.iadd, 1) := by decide +kernel
theorem dX7_doubt_46 : decode cX7_doubt 46 = .ok (.putfield 61, 3) := by decide +kernel
theorem dX7_doubt_49 : decode cX7_doubt 49 = .ok (.aload_n 0, 1) := by decide +kernel
theorem dX7_doubt_50 : decode cX7_doubt 50 = .ok (.aload_n 0, 1) := by decide +kernel
theorem dX7_doubt_51 : decode cX7_doubt 51 = .ok (.iload_n 1, 1) := by decide +kernel
theorem dX7_doubt_52 : decode cX7_doubt 52 = .ok (.iload_n 2, 1) := by decide +kernel
theorem dX7_doubt_53 : decode cX7_doubt 53 = .ok (.invokevirtual 189, 3) := by decide +kernel
theorem dX7_doubt_56 : decode cX7_doubt 56 = .ok (.iload_n 3, 1) := by decide +kernel
theorem dX7_doubt_57 : decode cX7_doubt 57 = .ok (.invokevirtual 203, 3) := by decide +kernel
theorem dX7_doubt_60 : decode cX7_doubt 60 = .ok (.ireturn, 1) := by decide +kernel
theorem dX7_doubted_0 : decode cX7_doubted 0 = .ok (.iconst 0, 1) := by decide +kernel
theorem dX7_doubted_1 : decode cX7_doubted 1 = .ok (.istore_n 3, 1) := by decide +kernel
theorem dX7_doubted_2 : decode cX7_doubted 2 = .ok (.iload_n 3, 1) := by decide +kernel
theorem dX7_doubted_3 : decode cX7_doubted 3 = .ok (.aload_n 0, 1) := by decide +kernel
theorem dX7_doubted_4 : decode cX7_doubted 4 = .ok (.getfield 21, 3) := by decide +kernel
theorem dX7_doubted_7 : decode cX7_doubted 7 = .ok (.invokevirtual 139, 3) := by decide +kernel
theorem dX7_doubted_10 : decode cX7_doubted 10 = .ok (.if_icmp .gt 122, 3) := by decide +kernel
theorem dX7_doubted_13 : decode cX7_doubted 13 = .ok (.iconst 0, 1) := by decide +kernel
theorem dX7_doubted_14 : decode cX7_doubted 14 = .ok (.istore 4, 2) := by decide +kernel
theorem dX7_doubted_16 : decode cX7_doubted 16 = .ok (.iconst (-1), 1) := by decide +kernel
theorem dX7_doubted_17 : decode cX7_doubted 17 = .ok (.istore 5, 2) := by decide +kernel
theorem dX7_doubted_19 : decode cX7_doubted 19 = .ok (.iconst 0, 1) := by decide +kernel
theorem dX7_doubted_20 : decode cX7_doubted 20 = .ok (.istore 6, 2) := by decide +kernel
theorem dX7_doubted_22 : decode cX7_doubted 22 = .ok (.iload 6, 2) := by decide +kernel
theorem dX7_doubted_24 : decode cX7_doubted 24 = .ok (.iconst 1, 1) := by decide +kernel
theorem dX7_doubted_25 : decode cX7_doubted 25 = .ok (.aload_n 0, 1) := by decide +kernel
theorem dX7_doubted_26 : decode cX7_doubted 26 = .ok (.getfield 21, 3) := by decide +kernel
theorem dX7_doubted_29 : decode cX7_doubted 29 = .ok (.invokevirtual 139, 3) := by decide +kernel
theorem dX7_doubted_32 : decode cX7_doubted 32 = .ok (.ishl, 1) := by decide +kernel
theorem dX7_doubted_33 : decode cX7_doubted 33 = .ok (.if_icmp .ge 74, 3) := by decide +kernel
theorem dX7_doubted_36 : decode cX7_doubted 36 = .ok (.iload 6, 2) := by decide +kernel
theorem dX7_doubted_38 : decode cX7_doubted 38 = .ok (.iload_n 1, 1) := by decide +kernel
theorem dX7_doubted_39 : decode cX7_doubted 39 = .ok (.iconst (-1), 1) := by decide +kernel
theorem dX7_doubted_40 : decode cX7_doubted 40 = .ok (.ixor, 1) := by decide +kernel
theorem dX7_doubted_41 : decode cX7_doubted 41 = .ok (.iand, 1) := by decide +kernel
theorem dX7_doubted_42 : decode cX7_doubted 42 = .ok (.ifCond .ne 16, 3) := by decide +kernel
theorem dX7_doubted_45 : decode cX7_doubted 45 = .ok (.iload 6, 2) := by decide +kernel
theorem dX7_doubted_47 : decode cX7_doubted 47 = .ok (.invokestatic 276, 3) := by decide +kernel
theorem dX7_doubted_50 : decode cX7_doubted 50 = .ok (.iload_n 3, 1) := by decide +kernel
theorem dX7_doubted_51 : decode cX7_doubted 51 = .ok (.if_icmp .ne 7, 3) := by decide +kernel
theorem dX7_doubted_54 : decode cX7_doubted 54 = .ok (.iconst 1, 1) := by decide +kernel
theorem dX7_doubted_55 : decode cX7_doubted 55 = .ok (.goto 4, 3) := by decide +kernel
theorem dX7_doubted_58 : decode cX7_doubted 58 = .ok (.iconst 0, 1) := by decide +kernel
theorem dX7_doubted_59 : decode cX7_doubted 59 = .ok (.istore 7, 2) := by decide +kernel
theorem dX7_doubted_61 : decode cX7_doubted 61 = .ok (.iload 7, 2) := by decide +kernel
theorem dX7_doubted_63 : decode cX7_doubted 63 = .ok (.ifCond .eq 38, 3) := by decide +kernel
theorem dX7_doubted_66 : decode cX7_doubted 66 = .ok (.aload_n 0, 1) := by decide +kernel
theorem dX7_doubted_67 : decode cX7_doubted 67 = .ok (.getfield 57, 3) := by decide +kernel
theorem dX7_doubted_70 : decode cX7_doubted 70 = .ok (.iload_n 1, 1) := by decide +kernel
theorem dX7_doubted_71 : decode cX7_doubted 71 = .ok (.iload 6, 2) := by decide +kernel
theorem dX7_doubted_73 : decode cX7_doubted 73 = .ok (.iconst (-1), 1) := by decide +kernel
theorem dX7_doubted_74 : decode cX7_doubted 74 = .ok (.ixor, 1) := by decide +kernel
theorem dX7_doubted_75 : decode cX7_doubted 75 = .ok (.iand, 1) := by decide +kernel
theorem dX7_doubted_76 : decode cX7_doubted 76 = .ok (.iconst (-1), 1) := by decide +kernel
theorem dX7_doubted_77 : decode cX7_doubted 77 = .ok (.iconst 0, 1) := by decide +kernel
theorem dX7_doubted_78 : decode cX7_doubted 78 = .ok (.invokevirtual 192, 3) := by decide +kernel
theorem dX7_doubted_81 : decode cX7_doubted 81 = .ok (.ifCond .eq 20, 3) := by decide +kernel
theorem dX7_doubted_84 : decode cX7_doubted 84 = .ok (.iload 4, 2) := by decide +kernel
theorem dX7_doubted_86 : decode cX7_doubted 86 = .ok (.ifCond .ne 8, 3) := by decide +kernel
theorem dX7_doubted_89 : decode cX7_doubted 89 = .ok (.iload 6, 2) := by decide +kernel
theorem dX7_doubted_91 : decode cX7_doubted 91 = .ok (.goto 5, 3) := by decide +kernel
theorem dX7_doubted_94 : decode cX7_doubted 94 = .ok (.iload 5, 2) := by decide +kernel
theorem dX7_doubted_96 : decode cX7_doubted 96 = .ok (.istore 5, 2) := by decide +kernel
theorem dX7_doubted_98 : decode cX7_doubted 98 = .ok (.iinc 4 1, 3) := by decide +kernel
theorem dX7_doubted_101 : decode cX7_doubted 101 = .ok (.iinc 6 1, 3) := by decide +kernel
theorem dX7_doubted_104 : decode cX7_doubted 104 = .ok (.goto (-82), 3) := by decide +kernel
theorem dX7_doubted_107 : decode cX7_doubted 107 = .ok (.iload 4, 2) := by decide +kernel
theorem dX7_doubted_109 : decode cX7_doubted 109 = .ok (.ifCond .le 17, 3) := by decide +kernel
theorem dX7_doubted_112 : decode cX7_doubted 112 = .ok (.iload_n 2, 1) := by decide +kernel
theorem dX7_doubted_113 : decode cX7_doubted 113 = .ok (.ifCond .ne 8, 3) := by decide +kernel
theorem dX7_doubted_116 : decode cX7_doubted 116 = .ok (.iload 5, 2) := by decide +kernel
theorem dX7_doubted_118 : decode cX7_doubted 118 = .ok (.goto 7, 3) := by decide +kernel
theorem dX7_doubted_121 : decode cX7_doubted 121 = .ok (.iload 4, 2) := by decide +kernel
theorem dX7_doubted_123 : decode cX7_doubted 123 = .ok (.iconst 1, 1) := by decide +kernel
theorem dX7_doubted_124 : decode cX7_doubted 124 = .ok (.isub, 1) := by decide +kernel
theorem dX7_doubted_125 : decode cX7_doubted 125 = .ok (.ireturn, 1) := by decide +kernel
theorem dX7_doubted_126 : decode cX7_doubted 126 = .ok (.iinc 3 1, 3) := by decide +kernel
theorem dX7_doubted_129 : decode cX7_doubted 129 = .ok (.goto (-127), 3) := by decide +kernel
theorem dX7_doubted_132 : decode cX7_doubted 132 = .ok (.iconst (-1), 1) := by decide +kernel
theorem dX7_doubted_133 : decode cX7_doubted 133 = .ok (.ireturn, 1) := by decide +kernel
theorem dX7_fault_0 : decode cX7_fault 0 = .ok (.aload_n 0, 1) := by decide +kernel
theorem dX7_fault_1 : decode cX7_fault 1 = .ok (.getfield 48, 3) := by decide +kernel
theorem dX7_fault_4 : decode cX7_fault 4 = .ok (.invokevirtual 158, 3) := by decide +kernel
theorem dX7_fault_7 : decode cX7_fault 7 = .ok (.ireturn, 1) := by decide +kernel
theorem dX7_floats_0 : decode cX7_floats 0 = .ok (.iload_n 1, 1) := by decide +kernel
theorem dX7_floats_1 : decode cX7_floats 1 = .ok (.iload_n 2, 1) := by decide +kernel
theorem dX7_floats_2 : decode cX7_floats 2 = .ok (.invokestatic 186, 3) := by decide +kernel
theorem dX7_floats_5 : decode cX7_floats 5 = .ok (.istore_n 3, 1) := by decide +kernel
theorem dX7_floats_6 : decode cX7_floats 6 = .ok (.iload_n 3, 1) := by decide +kernel
theorem dX7_floats_7 : decode cX7_floats 7 = .ok (.ifCond .eq 7, 3) := by decide +kernel
theorem dX7_floats_10 : decode cX7_floats 10 = .ok (.iload_n 3, 1) := by decide +kernel
theorem dX7_floats_11 : decode cX7_floats 11 = .ok (.goto 14, 3) := by decide +kernel
theorem dX7_floats_14 : decode cX7_floats 14 = .ok (.aload_n 0, 1) := by decide +kernel
theorem dX7_floats_15 : decode cX7_floats 15 = .ok (.aload_n 0, 1) := by decide +kernel
theorem dX7_floats_16 : decode cX7_floats 16 = .ok (.iload_n 1, 1) := by decide +kernel
theorem dX7_floats_17 : decode cX7_floats 17 = .ok (.iload_n 2, 1) := by decide +kernel
theorem dX7_floats_18 : decode cX7_floats 18 = .ok (.invokevirtual 206, 3) := by decide +kernel
theorem dX7_floats_21 : decode cX7_floats 21 = .ok (.iload_n 2, 1) := by decide +kernel
theorem dX7_floats_22 : decode cX7_floats 22 = .ok (.invokevirtual 209, 3) := by decide +kernel
theorem dX7_floats_25 : decode cX7_floats 25 = .ok (.ireturn, 1) := by decide +kernel
theorem dX7_gain_0 : decode cX7_gain 0 = .ok (.aload_n 0, 1) := by decide +kernel
theorem dX7_gain_1 : decode cX7_gain 1 = .ok (.getfield 25, 3) := by decide +kernel
theorem dX7_gain_4 : decode cX7_gain 4 = .ok (.iload_n 3, 1) := by decide +kernel
theorem dX7_gain_5 : decode cX7_gain 5 = .ok (.iload_n 2, 1) := by decide +kernel
theorem dX7_gain_6 : decode cX7_gain 6 = .ok (.aload_n 0, 1) := by decide +kernel
theorem dX7_gain_7 : decode cX7_gain 7 = .ok (.getfield 10, 3) := by decide +kernel
theorem dX7_gain_10 : decode cX7_gain 10 = .ok (.invokevirtual 269, 3) := by decide +kernel
theorem dX7_gain_13 : decode cX7_gain 13 = .ok (.ifCond .eq 16, 3) := by decide +kernel
theorem dX7_gain_16 : decode cX7_gain 16 = .ok (.aload_n 0, 1) := by decide +kernel
theorem dX7_gain_17 : decode cX7_gain 17 = .ok (.getfield 57, 3) := by decide +kernel
theorem dX7_gain_20 : decode cX7_gain 20 = .ok (.iload_n 1, 1) := by decide +kernel
theorem dX7_gain_21 : decode cX7_gain 21 = .ok (.iload_n 3, 1) := by decide +kernel
theorem dX7_gain_22 : decode cX7_gain 22 = .ok (.iconst 1, 1) := by decide +kernel
theorem dX7_gain_23 : decode cX7_gain 23 = .ok (.invokevirtual 192, 3) := by decide +kernel
theorem dX7_gain_26 : decode cX7_gain 26 = .ok (.ifCond .ne 5, 3) := by decide +kernel
theorem dX7_gain_29 : decode cX7_gain 29 = .ok (.iconst (-1), 1) := by decide +kernel
theorem dX7_gain_30 : decode cX7_gain 30 = .ok (.ireturn, 1) := by decide +kernel
theorem dX7_gain_31 : decode cX7_gain 31 = .ok (.iload 4, 2) := by decide +kernel
theorem dX7_gain_33 : decode cX7_gain 33 = .ok (.aload_n 0, 1) := by decide +kernel
theorem dX7_gain_34 : decode cX7_gain 34 = .ok (.getfield 57, 3) := by decide +kernel
theorem dX7_gain_37 : decode cX7_gain 37 = .ok (.invokevirtual 212, 3) := by decide +kernel
theorem dX7_gain_40 : decode cX7_gain 40 = .ok (.isub, 1) := by decide +kernel
theorem dX7_gain_41 : decode cX7_gain 41 = .ok (.ireturn, 1) := by decide +kernel
theorem dX7_held_0 : decode cX7_held 0 = .ok (.iload_n 1, 1) := by decide +kernel
theorem dX7_held_1 : decode cX7_held 1 = .ok (.iload_n 2, 1) := by decide +kernel
theorem dX7_held_2 : decode cX7_held 2 = .ok (.invokestatic 186, 3) := by decide +kernel
theorem dX7_held_5 : decode cX7_held 5 = .ok (.istore 5, 2) := by decide +kernel
theorem dX7_held_7 : decode cX7_held 7 = .ok (.iload 5, 2) := by decide +kernel
theorem dX7_held_9 : decode cX7_held 9 = .ok (.ifCond .eq 6, 3) := by decide +kernel
theorem dX7_held_12 : decode cX7_held 12 = .ok (.iload 5, 2) := by decide +kernel
theorem dX7_held_14 : decode cX7_held 14 = .ok (.ireturn, 1) := by decide +kernel
theorem dX7_held_15 : decode cX7_held 15 = .ok (.aload_n 0, 1) := by decide +kernel
theorem dX7_held_16 : decode cX7_held 16 = .ok (.getfield 10, 3) := by decide +kernel
theorem dX7_held_19 : decode cX7_held 19 = .ok (.iload_n 3, 1) := by decide +kernel
theorem dX7_held_20 : decode cX7_held 20 = .ok (.invokevirtual 85, 3) := by decide +kernel
theorem dX7_held_23 : decode cX7_held 23 = .ok (.ifCond .ne 6, 3) := by decide +kernel
theorem dX7_held_26 : decode cX7_held 26 = .ok (.bipush (-101), 2) := by decide +kernel
theorem dX7_held_28 : decode cX7_held 28 = .ok (.ireturn, 1) := by decide +kernel
theorem dX7_held_29 : decode cX7_held 29 = .ok (.iload 4, 2) := by decide +kernel
theorem dX7_held_31 : decode cX7_held 31 = .ok (.iconst 0, 1) := by decide +kernel
theorem dX7_held_32 : decode cX7_held 32 = .ok (.iconst 1, 1) := by decide +kernel
theorem dX7_held_33 : decode cX7_held 33 = .ok (.invokestatic 65, 3) := by decide +kernel
theorem dX7_held_36 : decode cX7_held 36 = .ok (.ifCond .eq 19, 3) := by decide +kernel
theorem dX7_held_39 : decode cX7_held 39 = .ok (.aload_n 0, 1) := by decide +kernel
theorem dX7_held_40 : decode cX7_held 40 = .ok (.aload_n 0, 1) := by decide +kernel
theorem dX7_held_41 : decode cX7_held 41 = .ok (.iload_n 1, 1) := by decide +kernel
theorem dX7_held_42 : decode cX7_held 42 = .ok (.iload_n 2, 1) := by decide +kernel
theorem dX7_held_43 : decode cX7_held 43 = .ok (.invokevirtual 189, 3) := by decide +kernel
theorem dX7_held_46 : decode cX7_held 46 = .ok (.iload_n 3, 1) := by decide +kernel
theorem dX7_held_47 : decode cX7_held 47 = .ok (.iload 4, 2) := by decide +kernel
theorem dX7_held_49 : decode cX7_held 49 = .ok (.invokevirtual 199, 3) := by decide +kernel
theorem dX7_held_52 : decode cX7_held 52 = .ok (.goto 5, 3) := by decide +kernel
theorem dX7_held_55 : decode cX7_held 55 = .ok (.bipush (-102), 2) := by decide +kernel
theorem dX7_held_57 : decode cX7_held 57 = .ok (.ireturn, 1) := by decide +kernel
theorem dX7_holders_0 : decode cX7_holders 0 = .ok (.aload_n 0, 1) := by decide +kernel
theorem dX7_holders_1 : decode cX7_holders 1 = .ok (.getfield 57, 3) := by decide +kernel
theorem dX7_holders_4 : decode cX7_holders 4 = .ok (.iload_n 1, 1) := by decide +kernel
theorem dX7_holders_5 : decode cX7_holders 5 = .ok (.iconst (-1), 1) := by decide +kernel
theorem dX7_holders_6 : decode cX7_holders 6 = .ok (.iconst 1, 1) := by decide +kernel
theorem dX7_holders_7 : decode cX7_holders 7 = .ok (.invokevirtual 192, 3) := by decide +kernel
theorem dX7_holders_10 : decode cX7_holders 10 = .ok (.ifCond .ne 5, 3) := by decide +kernel
theorem dX7_holders_13 : decode cX7_holders 13 = .ok (.iconst 0, 1) := by decide +kernel
theorem dX7_holders_14 : decode cX7_holders 14 = .ok (.ireturn, 1) := by decide +kernel
theorem dX7_holders_15 : decode cX7_holders 15 = .ok (.aload_n 0, 1) := by decide +kernel
theorem dX7_holders_16 : decode cX7_holders 16 = .ok (.getfield 57, 3) := by decide +kernel
theorem dX7_holders_19 : decode cX7_holders 19 = .ok (.iload_n 2, 1) := by decide +kernel
theorem dX7_holders_20 : decode cX7_holders 20 = .ok (.iload_n 3, 1) := by decide +kernel
theorem dX7_holders_21 : decode cX7_holders 21 = .ok (.invokevirtual 196, 3) := by decide +kernel
theorem dX7_holders_24 : decode cX7_holders 24 = .ok (.istore 4, 2) := by decide +kernel
theorem dX7_holders_26 : decode cX7_holders 26 = .ok (.iconst 0, 1) := by decide +kernel
theorem dX7_holders_27 : decode cX7_holders 27 = .ok (.istore 5, 2) := by decide +kernel
theorem dX7_holders_29 : decode cX7_holders 29 = .ok (.iconst 0, 1) := by decide +kernel
theorem dX7_holders_30 : decode cX7_holders 30 = .ok (.istore 6, 2) := by decide +kernel
theorem dX7_holders_32 : decode cX7_holders 32 = .ok (.iload 6, 2) := by decide +kernel
theorem dX7_holders_34 : decode cX7_holders 34 = .ok (.aload_n 0, 1) := by decide +kernel
theorem dX7_holders_35 : decode cX7_holders 35 = .ok (.getfield 21, 3) := by decide +kernel
theorem dX7_holders_38 : decode cX7_holders 38 = .ok (.invokevirtual 139, 3) := by decide +kernel
theorem dX7_holders_41 : decode cX7_holders 41 = .ok (.if_icmp .ge 61, 3) := by decide +kernel
theorem dX7_holders_44 : decode cX7_holders 44 = .ok (.iconst 1, 1) := by decide +kernel
theorem dX7_holders_45 : decode cX7_holders 45 = .ok (.iload 6, 2) := by decide +kernel
theorem dX7_holders_47 : decode cX7_holders 47 = .ok (.ishl, 1) := by decide +kernel
theorem dX7_holders_48 : decode cX7_holders 48 = .ok (.istore 7, 2) := by decide +kernel
theorem dX7_holders_50 : decode cX7_holders 50 = .ok (.iload_n 1, 1) := by decide +kernel
theorem dX7_holders_51 : decode cX7_holders 51 = .ok (.iload 7, 2) := by decide +kernel
theorem dX7_holders_53 : decode cX7_holders 53 = .ok (.iand, 1) := by decide +kernel
theorem dX7_holders_54 : decode cX7_holders 54 = .ok (.ifCond .eq 42, 3) := by decide +kernel
theorem dX7_holders_57 : decode cX7_holders 57 = .ok (.aload_n 0, 1) := by decide +kernel
theorem dX7_holders_58 : decode cX7_holders 58 = .ok (.getfield 57, 3) := by decide +kernel
theorem dX7_holders_61 : decode cX7_holders 61 = .ok (.iload_n 1, 1) := by decide +kernel
theorem dX7_holders_62 : decode cX7_holders 62 = .ok (.iload 7, 2) := by decide +kernel
theorem dX7_holders_64 : decode cX7_holders 64 = .ok (.iconst (-1), 1) := by decide +kernel
theorem dX7_holders_65 : decode cX7_holders 65 = .ok (.ixor, 1) := by decide +kernel
theorem dX7_holders_66 : decode cX7_holders 66 = .ok (.iand, 1) := by decide +kernel
theorem dX7_holders_67 : decode cX7_holders 67 = .ok (.iconst (-1), 1) := by decide +kernel
theorem dX7_holders_68 : decode cX7_holders 68 = .ok (.iconst 1, 1) := by decide +kernel
theorem dX7_holders_69 : decode cX7_holders 69 = .ok (.invokevirtual 192, 3) := by decide +kernel
theorem dX7_holders_72 : decode cX7_holders 72 = .ok (.ifCond .eq 24, 3) := by decide +kernel
theorem dX7_holders_75 : decode cX7_holders 75 = .ok (.aload_n 0, 1) := by decide +kernel
theorem dX7_holders_76 : decode cX7_holders 76 = .ok (.getfield 57, 3) := by decide +kernel
theorem dX7_holders_79 : decode cX7_holders 79 = .ok (.iload_n 2, 1) := by decide +kernel
theorem dX7_holders_80 : decode cX7_holders 80 = .ok (.iload_n 3, 1) := by decide +kernel
theorem dX7_holders_81 : decode cX7_holders 81 = .ok (.invokevirtual 196, 3) := by decide +kernel
theorem dX7_holders_84 : decode cX7_holders 84 = .ok (.iload 4, 2) := by decide +kernel
theorem dX7_holders_86 : decode cX7_holders 86 = .ok (.if_icmp .eq 10, 3) := by decide +kernel
theorem dX7_holders_89 : decode cX7_holders 89 = .ok (.iload 5, 2) := by decide +kernel
theorem dX7_holders_91 : decode cX7_holders 91 = .ok (.iload 7, 2) := by decide +kernel
theorem dX7_holders_93 : decode cX7_holders 93 = .ok (.ior, 1) := by decide +kernel
theorem dX7_holders_94 : decode cX7_holders 94 = .ok (.istore 5, 2) := by decide +kernel
theorem dX7_holders_96 : decode cX7_holders 96 = .ok (.iinc 6 1, 3) := by decide +kernel
theorem dX7_holders_99 : decode cX7_holders 99 = .ok (.goto (-67), 3) := by decide +kernel
theorem dX7_holders_102 : decode cX7_holders 102 = .ok (.iload 5, 2) := by decide +kernel
theorem dX7_holders_104 : decode cX7_holders 104 = .ok (.ireturn, 1) := by decide +kernel
theorem dX7_init_0 : decode cX7_init 0 = .ok (.aload_n 0, 1) := by decide +kernel
theorem dX7_init_1 : decode cX7_init 1 = .ok (.invokespecial 1, 3) := by decide +kernel
theorem dX7_init_4 : decode cX7_init 4 = .ok (.aload_n 0, 1) := by decide +kernel
theorem dX7_init_5 : decode cX7_init 5 = .ok (.new 7, 3) := by decide +kernel
theorem dX7_init_8 : decode cX7_init 8 = .ok (.dup, 1) := by decide +kernel
theorem dX7_init_9 : decode cX7_init 9 = .ok (.invokespecial 9, 3) := by decide +kernel
theorem dX7_init_12 : decode cX7_init 12 = .ok (.putfield 10, 3) := by decide +kernel
theorem dX7_init_15 : decode cX7_init 15 = .ok (.aload_n 0, 1) := by decide +kernel
theorem dX7_init_16 : decode cX7_init 16 = .ok (.new 16, 3) := by decide +kernel
theorem dX7_init_19 : decode cX7_init 19 = .ok (.dup, 1) := by decide +kernel
theorem dX7_init_20 : decode cX7_init 20 = .ok (.bipush 8, 2) := by decide +kernel
theorem dX7_init_22 : decode cX7_init 22 = .ok (.invokespecial 18, 3) := by decide +kernel
theorem dX7_init_25 : decode cX7_init 25 = .ok (.putfield 21, 3) := by decide +kernel
theorem dX7_init_28 : decode cX7_init 28 = .ok (.aload_n 0, 1) := by decide +kernel
theorem dX7_init_29 : decode cX7_init 29 = .ok (.new 16, 3) := by decide +kernel
theorem dX7_init_32 : decode cX7_init 32 = .ok (.dup, 1) := by decide +kernel
theorem dX7_init_33 : decode cX7_init 33 = .ok (.bipush 6, 2) := by decide +kernel
theorem dX7_init_35 : decode cX7_init 35 = .ok (.invokespecial 18, 3) := by decide +kernel
theorem dX7_init_38 : decode cX7_init 38 = .ok (.putfield 25, 3) := by decide +kernel
theorem dX7_init_41 : decode cX7_init 41 = .ok (.aload_n 0, 1) := by decide +kernel
theorem dX7_init_42 : decode cX7_init 42 = .ok (.new 28, 3) := by decide +kernel
theorem dX7_init_45 : decode cX7_init 45 = .ok (.dup, 1) := by decide +kernel
theorem dX7_init_46 : decode cX7_init 46 = .ok (.invokespecial 30, 3) := by decide +kernel
theorem dX7_init_49 : decode cX7_init 49 = .ok (.putfield 31, 3) := by decide +kernel
theorem dX7_init_52 : decode cX7_init 52 = .ok (.aload_n 0, 1) := by decide +kernel
theorem dX7_init_53 : decode cX7_init 53 = .ok (.new 28, 3) := by decide +kernel
theorem dX7_init_56 : decode cX7_init 56 = .ok (.dup, 1) := by decide +kernel
theorem dX7_init_57 : decode cX7_init 57 = .ok (.invokespecial 30, 3) := by decide +kernel
theorem dX7_init_60 : decode cX7_init 60 = .ok (.putfield 35, 3) := by decide +kernel
theorem dX7_init_63 : decode cX7_init 63 = .ok (.aload_n 0, 1) := by decide +kernel
theorem dX7_init_64 : decode cX7_init 64 = .ok (.new 38, 3) := by decide +kernel
theorem dX7_init_67 : decode cX7_init 67 = .ok (.dup, 1) := by decide +kernel
theorem dX7_init_68 : decode cX7_init 68 = .ok (.invokespecial 40, 3) := by decide +kernel
theorem dX7_init_71 : decode cX7_init 71 = .ok (.putfield 41, 3) := by decide +kernel
theorem dX7_init_74 : decode cX7_init 74 = .ok (.aload_n 0, 1) := by decide +kernel
theorem dX7_init_75 : decode cX7_init 75 = .ok (.new 45, 3) := by decide +kernel
theorem dX7_init_78 : decode cX7_init 78 = .ok (.dup, 1) := by decide +kernel
theorem dX7_init_79 : decode cX7_init 79 = .ok (.invokespecial 47, 3) := by decide +kernel
theorem dX7_init_82 : decode cX7_init 82 = .ok (.putfield 48, 3) := by decide +kernel
theorem dX7_init_85 : decode cX7_init 85 = .ok (.aload_n 0, 1) := by decide +kernel
theorem dX7_init_86 : decode cX7_init 86 = .ok (.new 52, 3) := by decide +kernel
theorem dX7_init_89 : decode cX7_init 89 = .ok (.dup, 1) := by decide +kernel
theorem dX7_init_90 : decode cX7_init 90 = .ok (.aload_n 0, 1) := by decide +kernel
theorem dX7_init_91 : decode cX7_init 91 = .ok (.getfield 10, 3) := by decide +kernel
theorem dX7_init_94 : decode cX7_init 94 = .ok (.aload_n 0, 1) := by decide +kernel
theorem dX7_init_95 : decode cX7_init 95 = .ok (.getfield 21, 3) := by decide +kernel
theorem dX7_init_98 : decode cX7_init 98 = .ok (.aload_n 0, 1) := by decide +kernel
theorem dX7_init_99 : decode cX7_init 99 = .ok (.getfield 25, 3) := by decide +kernel
theorem dX7_init_102 : decode cX7_init 102 = .ok (.invokespecial 54, 3) := by decide +kernel
theorem dX7_init_105 : decode cX7_init 105 = .ok (.putfield 57, 3) := by decide +kernel
theorem dX7_init_108 : decode cX7_init 108 = .ok (.aload_n 0, 1) := by decide +kernel
theorem dX7_init_109 : decode cX7_init 109 = .ok (.iconst 0, 1) := by decide +kernel
theorem dX7_init_110 : decode cX7_init 110 = .ok (.putfield 61, 3) := by decide +kernel
theorem dX7_init_113 : decode cX7_init 113 = .ok (.return_, 1) := by decide +kernel
theorem dX7_isSchool_0 : decode cX7_isSchool 0 = .ok (.iload_n 0, 1) := by decide +kernel
theorem dX7_isSchool_1 : decode cX7_isSchool 1 = .ok (.iconst 0, 1) := by decide +kernel
theorem dX7_isSchool_2 : decode cX7_isSchool 2 = .ok (.iconst 1, 1) := by decide +kernel
theorem dX7_isSchool_3 : decode cX7_isSchool 3 = .ok (.invokestatic 65, 3) := by decide +kernel
theorem dX7_isSchool_6 : decode cX7_isSchool 6 = .ok (.ireturn, 1) := by decide +kernel
theorem dX7_isYear_0 : decode cX7_isYear 0 = .ok (.iload_n 0, 1) := by decide +kernel
theorem dX7_isYear_1 : decode cX7_isYear 1 = .ok (.sipush (-2000), 3) := by decide +kernel
theorem dX7_isYear_4 : decode cX7_isYear 4 = .ok (.sipush 2000, 3) := by decide +kernel
theorem dX7_isYear_7 : decode cX7_isYear 7 = .ok (.invokestatic 65, 3) := by decide +kernel
theorem dX7_isYear_10 : decode cX7_isYear 10 = .ok (.ireturn, 1) := by decide +kernel
theorem dX7_judge_0 : decode cX7_judge 0 = .ok (.iload_n 1, 1) := by decide +kernel
theorem dX7_judge_1 : decode cX7_judge 1 = .ok (.invokestatic 161, 3) := by decide +kernel
theorem dX7_judge_4 : decode cX7_judge 4 = .ok (.ifCond .ne 6, 3) := by decide +kernel
theorem dX7_judge_7 : decode cX7_judge 7 = .ok (.bipush (-101), 2) := by decide +kernel
theorem dX7_judge_9 : decode cX7_judge 9 = .ok (.ireturn, 1) := by decide +kernel
theorem dX7_judge_10 : decode cX7_judge 10 = .ok (.iconst 0, 1) := by decide +kernel
theorem dX7_judge_11 : decode cX7_judge 11 = .ok (.istore_n 2, 1) := by decide +kernel
theorem dX7_judge_12 : decode cX7_judge 12 = .ok (.iload_n 2, 1) := by decide +kernel
theorem dX7_judge_13 : decode cX7_judge 13 = .ok (.aload_n 0, 1) := by decide +kernel
theorem dX7_judge_14 : decode cX7_judge 14 = .ok (.getfield 10, 3) := by decide +kernel
theorem dX7_judge_17 : decode cX7_judge 17 = .ok (.invokevirtual 227, 3) := by decide +kernel
theorem dX7_judge_20 : decode cX7_judge 20 = .ok (.if_icmp .ge 47, 3) := by decide +kernel
theorem dX7_judge_23 : decode cX7_judge 23 = .ok (.aload_n 0, 1) := by decide +kernel
theorem dX7_judge_24 : decode cX7_judge 24 = .ok (.getfield 10, 3) := by decide +kernel
theorem dX7_judge_27 : decode cX7_judge 27 = .ok (.iload_n 2, 1) := by decide +kernel
theorem dX7_judge_28 : decode cX7_judge 28 = .ok (.iconst 5, 1) := by decide +kernel
theorem dX7_judge_29 : decode cX7_judge 29 = .ok (.invokevirtual 88, 3) := by decide +kernel
theorem dX7_judge_32 : decode cX7_judge 32 = .ok (.istore_n 3, 1) := by decide +kernel
theorem dX7_judge_33 : decode cX7_judge 33 = .ok (.iload_n 3, 1) := by decide +kernel
theorem dX7_judge_34 : decode cX7_judge 34 = .ok (.iconst (-1), 1) := by decide +kernel
theorem dX7_judge_35 : decode cX7_judge 35 = .ok (.if_icmp .eq 26, 3) := by decide +kernel
theorem dX7_judge_38 : decode cX7_judge 38 = .ok (.aload_n 0, 1) := by decide +kernel
theorem dX7_judge_39 : decode cX7_judge 39 = .ok (.getfield 10, 3) := by decide +kernel
theorem dX7_judge_42 : decode cX7_judge 42 = .ok (.iload_n 2, 1) := by decide +kernel
theorem dX7_judge_43 : decode cX7_judge 43 = .ok (.iload_n 3, 1) := by decide +kernel
theorem dX7_judge_44 : decode cX7_judge 44 = .ok (.aload_n 0, 1) := by decide +kernel
theorem dX7_judge_45 : decode cX7_judge 45 = .ok (.iload_n 1, 1) := by decide +kernel
theorem dX7_judge_46 : decode cX7_judge 46 = .ok (.iload_n 3, 1) := by decide +kernel
theorem dX7_judge_47 : decode cX7_judge 47 = .ok (.invokevirtual 180, 3) := by decide +kernel
theorem dX7_judge_50 : decode cX7_judge 50 = .ok (.invokevirtual 228, 3) := by decide +kernel
theorem dX7_judge_53 : decode cX7_judge 53 = .ok (.ifCond .ne 8, 3) := by decide +kernel
theorem dX7_judge_56 : decode cX7_judge 56 = .ok (.bipush 100, 2) := by decide +kernel
theorem dX7_judge_58 : decode cX7_judge 58 = .ok (.iload_n 2, 1) := by decide +kernel
theorem dX7_judge_59 : decode cX7_judge 59 = .ok (.iadd, 1) := by decide +kernel
theorem dX7_judge_60 : decode cX7_judge 60 = .ok (.ireturn, 1) := by decide +kernel
theorem dX7_judge_61 : decode cX7_judge 61 = .ok (.iinc 2 1, 3) := by decide +kernel
theorem dX7_judge_64 : decode cX7_judge 64 = .ok (.goto (-52), 3) := by decide +kernel
theorem dX7_judge_67 : decode cX7_judge 67 = .ok (.iconst 0, 1) := by decide +kernel
theorem dX7_judge_68 : decode cX7_judge 68 = .ok (.istore_n 2, 1) := by decide +kernel
theorem dX7_judge_69 : decode cX7_judge 69 = .ok (.iload_n 2, 1) := by decide +kernel
theorem dX7_judge_70 : decode cX7_judge 70 = .ok (.aload_n 0, 1) := by decide +kernel
theorem dX7_judge_71 : decode cX7_judge 71 = .ok (.getfield 21, 3) := by decide +kernel
theorem dX7_judge_74 : decode cX7_judge 74 = .ok (.invokevirtual 139, 3) := by decide +kernel
theorem dX7_judge_77 : decode cX7_judge 77 = .ok (.if_icmp .ge 40, 3) := by decide +kernel
theorem dX7_judge_80 : decode cX7_judge 80 = .ok (.aload_n 0, 1) := by decide +kernel
theorem dX7_judge_81 : decode cX7_judge 81 = .ok (.iload_n 1, 1) := by decide +kernel
theorem dX7_judge_82 : decode cX7_judge 82 = .ok (.iload_n 2, 1) := by decide +kernel
theorem dX7_judge_83 : decode cX7_judge 83 = .ok (.invokevirtual 183, 3) := by decide +kernel
theorem dX7_judge_86 : decode cX7_judge 86 = .ok (.iconst 1, 1) := by decide +kernel
theorem dX7_judge_87 : decode cX7_judge 87 = .ok (.if_icmp .ne 24, 3) := by decide +kernel
theorem dX7_judge_90 : decode cX7_judge 90 = .ok (.aload_n 0, 1) := by decide +kernel
theorem dX7_judge_91 : decode cX7_judge 91 = .ok (.getfield 21, 3) := by decide +kernel
theorem dX7_judge_94 : decode cX7_judge 94 = .ok (.iload_n 2, 1) := by decide +kernel
theorem dX7_judge_95 : decode cX7_judge 95 = .ok (.aload_n 0, 1) := by decide +kernel
theorem dX7_judge_96 : decode cX7_judge 96 = .ok (.getfield 10, 3) := by decide +kernel
theorem dX7_judge_99 : decode cX7_judge 99 = .ok (.invokevirtual 231, 3) := by decide +kernel
theorem dX7_judge_102 : decode cX7_judge 102 = .ok (.ifCond .ne 9, 3) := by decide +kernel
theorem dX7_judge_105 : decode cX7_judge 105 = .ok (.sipush 200, 3) := by decide +kernel
theorem dX7_judge_108 : decode cX7_judge 108 = .ok (.iload_n 2, 1) := by decide +kernel
theorem dX7_judge_109 : decode cX7_judge 109 = .ok (.iadd, 1) := by decide +kernel
theorem dX7_judge_110 : decode cX7_judge 110 = .ok (.ireturn, 1) := by decide +kernel
theorem dX7_judge_111 : decode cX7_judge 111 = .ok (.iinc 2 1, 3) := by decide +kernel
theorem dX7_judge_114 : decode cX7_judge 114 = .ok (.goto (-45), 3) := by decide +kernel
theorem dX7_judge_117 : decode cX7_judge 117 = .ok (.iconst (-1), 1) := by decide +kernel
theorem dX7_judge_118 : decode cX7_judge 118 = .ok (.ireturn, 1) := by decide +kernel
theorem dX7_lasts_0 : decode cX7_lasts 0 = .ok (.aload_n 0, 1) := by decide +kernel
theorem dX7_lasts_1 : decode cX7_lasts 1 = .ok (.getfield 10, 3) := by decide +kernel
theorem dX7_lasts_4 : decode cX7_lasts 4 = .ok (.iload_n 1, 1) := by decide +kernel
theorem dX7_lasts_5 : decode cX7_lasts 5 = .ok (.invokevirtual 85, 3) := by decide +kernel
theorem dX7_lasts_8 : decode cX7_lasts 8 = .ok (.ifCond .ne 6, 3) := by decide +kernel
theorem dX7_lasts_11 : decode cX7_lasts 11 = .ok (.bipush (-101), 2) := by decide +kernel
theorem dX7_lasts_13 : decode cX7_lasts 13 = .ok (.ireturn, 1) := by decide +kernel
theorem dX7_lasts_14 : decode cX7_lasts 14 = .ok (.iload_n 2, 1) := by decide +kernel
theorem dX7_lasts_15 : decode cX7_lasts 15 = .ok (.iconst 0, 1) := by decide +kernel
theorem dX7_lasts_16 : decode cX7_lasts 16 = .ok (.iconst 1, 1) := by decide +kernel
theorem dX7_lasts_17 : decode cX7_lasts 17 = .ok (.invokestatic 65, 3) := by decide +kernel
theorem dX7_lasts_20 : decode cX7_lasts 20 = .ok (.ifCond .eq 12, 3) := by decide +kernel
theorem dX7_lasts_23 : decode cX7_lasts 23 = .ok (.iload_n 3, 1) := by decide +kernel
theorem dX7_lasts_24 : decode cX7_lasts 24 = .ok (.iconst 0, 1) := by decide +kernel
theorem dX7_lasts_25 : decode cX7_lasts 25 = .ok (.iconst 2, 1) := by decide +kernel
theorem dX7_lasts_26 : decode cX7_lasts 26 = .ok (.invokestatic 65, 3) := by decide +kernel
theorem dX7_lasts_29 : decode cX7_lasts 29 = .ok (.ifCond .ne 6, 3) := by decide +kernel
theorem dX7_lasts_32 : decode cX7_lasts 32 = .ok (.bipush (-102), 2) := by decide +kernel
theorem dX7_lasts_34 : decode cX7_lasts 34 = .ok (.ireturn, 1) := by decide +kernel
theorem dX7_lasts_35 : decode cX7_lasts 35 = .ok (.iload_n 3, 1) := by decide +kernel
theorem dX7_lasts_36 : decode cX7_lasts 36 = .ok (.iconst 2, 1) := by decide +kernel
theorem dX7_lasts_37 : decode cX7_lasts 37 = .ok (.if_icmp .ne 13, 3) := by decide +kernel
theorem dX7_lasts_40 : decode cX7_lasts 40 = .ok (.aload_n 0, 1) := by decide +kernel
theorem dX7_lasts_41 : decode cX7_lasts 41 = .ok (.getfield 10, 3) := by decide +kernel
theorem dX7_lasts_44 : decode cX7_lasts 44 = .ok (.iload_n 1, 1) := by decide +kernel
theorem dX7_lasts_45 : decode cX7_lasts 45 = .ok (.iload_n 2, 1) := by decide +kernel
theorem dX7_lasts_46 : decode cX7_lasts 46 = .ok (.invokevirtual 95, 3) := by decide +kernel
theorem dX7_lasts_49 : decode cX7_lasts 49 = .ok (.ireturn, 1) := by decide +kernel
theorem dX7_lasts_50 : decode cX7_lasts 50 = .ok (.iload_n 3, 1) := by decide +kernel
theorem dX7_lasts_51 : decode cX7_lasts 51 = .ok (.ifCond .ne 15, 3) := by decide +kernel
theorem dX7_lasts_54 : decode cX7_lasts 54 = .ok (.aload_n 0, 1) := by decide +kernel
theorem dX7_lasts_55 : decode cX7_lasts 55 = .ok (.getfield 10, 3) := by decide +kernel
theorem dX7_lasts_58 : decode cX7_lasts 58 = .ok (.iload_n 1, 1) := by decide +kernel
theorem dX7_lasts_59 : decode cX7_lasts 59 = .ok (.iload_n 2, 1) := by decide +kernel
theorem dX7_lasts_60 : decode cX7_lasts 60 = .ok (.invokevirtual 98, 3) := by decide +kernel
theorem dX7_lasts_63 : decode cX7_lasts 63 = .ok (.goto 12, 3) := by decide +kernel
theorem dX7_lasts_66 : decode cX7_lasts 66 = .ok (.aload_n 0, 1) := by decide +kernel
theorem dX7_lasts_67 : decode cX7_lasts 67 = .ok (.getfield 10, 3) := by decide +kernel
theorem dX7_lasts_70 : decode cX7_lasts 70 = .ok (.iload_n 1, 1) := by decide +kernel
theorem dX7_lasts_71 : decode cX7_lasts 71 = .ok (.iload_n 2, 1) := by decide +kernel
theorem dX7_lasts_72 : decode cX7_lasts 72 = .ok (.invokevirtual 101, 3) := by decide +kernel
theorem dX7_lasts_75 : decode cX7_lasts 75 = .ok (.ireturn, 1) := by decide +kernel
theorem dX7_lay_0 : decode cX7_lay 0 = .ok (.iconst 0, 1) := by decide +kernel
theorem dX7_lay_1 : decode cX7_lay 1 = .ok (.istore_n 3, 1) := by decide +kernel
theorem dX7_lay_2 : decode cX7_lay 2 = .ok (.iconst 0, 1) := by decide +kernel
theorem dX7_lay_3 : decode cX7_lay 3 = .ok (.istore 4, 2) := by decide +kernel
theorem dX7_lay_5 : decode cX7_lay 5 = .ok (.iload 4, 2) := by decide +kernel
theorem dX7_lay_7 : decode cX7_lay 7 = .ok (.aload_n 0, 1) := by decide +kernel
theorem dX7_lay_8 : decode cX7_lay 8 = .ok (.getfield 10, 3) := by decide +kernel
theorem dX7_lay_11 : decode cX7_lay 11 = .ok (.invokevirtual 227, 3) := by decide +kernel
theorem dX7_lay_14 : decode cX7_lay 14 = .ok (.if_icmp .ge 22, 3) := by decide +kernel
theorem dX7_lay_17 : decode cX7_lay 17 = .ok (.iload_n 3, 1) := by decide +kernel
theorem dX7_lay_18 : decode cX7_lay 18 = .ok (.aload_n 0, 1) := by decide +kernel
theorem dX7_lay_19 : decode cX7_lay 19 = .ok (.iload_n 1, 1) := by decide +kernel
theorem dX7_lay_20 : decode cX7_lay 20 = .ok (.iload 4, 2) := by decide +kernel
theorem dX7_lay_22 : decode cX7_lay 22 = .ok (.invokevirtual 180, 3) := by decide +kernel
theorem dX7_lay_25 : decode cX7_lay 25 = .ok (.iload 4, 2) := by decide +kernel
theorem dX7_lay_27 : decode cX7_lay 27 = .ok (.ishl, 1) := by decide +kernel
theorem dX7_lay_28 : decode cX7_lay 28 = .ok (.ior, 1) := by decide +kernel
theorem dX7_lay_29 : decode cX7_lay 29 = .ok (.istore_n 3, 1) := by decide +kernel
theorem dX7_lay_30 : decode cX7_lay 30 = .ok (.iinc 4 1, 3) := by decide +kernel
theorem dX7_lay_33 : decode cX7_lay 33 = .ok (.goto (-28), 3) := by decide +kernel
theorem dX7_lay_36 : decode cX7_lay 36 = .ok (.aload_n 0, 1) := by decide +kernel
theorem dX7_lay_37 : decode cX7_lay 37 = .ok (.getfield 57, 3) := by decide +kernel
theorem dX7_lay_40 : decode cX7_lay 40 = .ok (.iload_n 2, 1) := by decide +kernel
theorem dX7_lay_41 : decode cX7_lay 41 = .ok (.iload_n 3, 1) := by decide +kernel
theorem dX7_lay_42 : decode cX7_lay 42 = .ok (.invokevirtual 272, 3) := by decide +kernel
theorem dX7_lay_45 : decode cX7_lay 45 = .ok (.aload_n 0, 1) := by decide +kernel
theorem dX7_lay_46 : decode cX7_lay 46 = .ok (.iload_n 1, 1) := by decide +kernel
theorem dX7_lay_47 : decode cX7_lay 47 = .ok (.iload_n 2, 1) := by decide +kernel
theorem dX7_lay_48 : decode cX7_lay 48 = .ok (.invokevirtual 206, 3) := by decide +kernel
theorem dX7_lay_51 : decode cX7_lay 51 = .ok (.ireturn, 1) := by decide +kernel
theorem dX7_letter_0 : decode cX7_letter 0 = .ok (.aload_n 0, 1) := by decide +kernel
theorem dX7_letter_1 : decode cX7_letter 1 = .ok (.iload_n 1, 1) := by decide +kernel
theorem dX7_letter_2 : decode cX7_letter 2 = .ok (.iload_n 3, 1) := by decide +kernel
theorem dX7_letter_3 : decode cX7_letter 3 = .ok (.invokevirtual 110, 3) := by decide +kernel
theorem dX7_letter_6 : decode cX7_letter 6 = .ok (.ifCond .ne 6, 3) := by decide +kernel
theorem dX7_letter_9 : decode cX7_letter 9 = .ok (.bipush (-101), 2) := by decide +kernel
theorem dX7_letter_11 : decode cX7_letter 11 = .ok (.ireturn, 1) := by decide +kernel
theorem dX7_letter_12 : decode cX7_letter 12 = .ok (.iload_n 2, 1) := by decide +kernel
theorem dX7_letter_13 : decode cX7_letter 13 = .ok (.iload 4, 2) := by decide +kernel
theorem dX7_letter_15 : decode cX7_letter 15 = .ok (.invokestatic 113, 3) := by decide +kernel
theorem dX7_letter_18 : decode cX7_letter 18 = .ok (.ifCond .eq 14, 3) := by decide +kernel
theorem dX7_letter_21 : decode cX7_letter 21 = .ok (.iload 5, 2) := by decide +kernel
theorem dX7_letter_23 : decode cX7_letter 23 = .ok (.iconst 0, 1) := by decide +kernel
theorem dX7_letter_24 : decode cX7_letter 24 = .ok (.bipush 9, 2) := by decide +kernel
theorem dX7_letter_26 : decode cX7_letter 26 = .ok (.invokestatic 65, 3) := by decide +kernel
theorem dX7_letter_29 : decode cX7_letter 29 = .ok (.ifCond .ne 6, 3) := by decide +kernel
theorem dX7_letter_32 : decode cX7_letter 32 = .ok (.bipush (-102), 2) := by decide +kernel
theorem dX7_letter_34 : decode cX7_letter 34 = .ok (.ireturn, 1) := by decide +kernel
theorem dX7_letter_35 : decode cX7_letter 35 = .ok (.aload_n 0, 1) := by decide +kernel
theorem dX7_letter_36 : decode cX7_letter 36 = .ok (.getfield 21, 3) := by decide +kernel
theorem dX7_letter_39 : decode cX7_letter 39 = .ok (.invokevirtual 116, 3) := by decide +kernel
theorem dX7_letter_42 : decode cX7_letter 42 = .ok (.ifCond .eq 8, 3) := by decide +kernel
theorem dX7_letter_45 : decode cX7_letter 45 = .ok (.bipush (-104), 2) := by decide +kernel
theorem dX7_letter_47 : decode cX7_letter 47 = .ok (.goto 19, 3) := by decide +kernel
theorem dX7_letter_50 : decode cX7_letter 50 = .ok (.aload_n 0, 1) := by decide +kernel
theorem dX7_letter_51 : decode cX7_letter 51 = .ok (.getfield 21, 3) := by decide +kernel
theorem dX7_letter_54 : decode cX7_letter 54 = .ok (.iconst 3, 1) := by decide +kernel
theorem dX7_letter_55 : decode cX7_letter 55 = .ok (.iload_n 1, 1) := by decide +kernel
theorem dX7_letter_56 : decode cX7_letter 56 = .ok (.iload_n 2, 1) := by decide +kernel
theorem dX7_letter_57 : decode cX7_letter 57 = .ok (.iload_n 3, 1) := by decide +kernel
theorem dX7_letter_58 : decode cX7_letter 58 = .ok (.iload 4, 2) := by decide +kernel
theorem dX7_letter_60 : decode cX7_letter 60 = .ok (.iconst (-1), 1) := by decide +kernel
theorem dX7_letter_61 : decode cX7_letter 61 = .ok (.iload 5, 2) := by decide +kernel
theorem dX7_letter_63 : decode cX7_letter 63 = .ok (.invokevirtual 120, 3) := by decide +kernel
theorem dX7_letter_66 : decode cX7_letter 66 = .ok (.ireturn, 1) := by decide +kernel
theorem dX7_letters_0 : decode cX7_letters 0 = .ok (.lload_n 1, 1) := by decide +kernel
theorem dX7_letters_1 : decode cX7_letters 1 = .ok (.invokestatic 146, 3) := by decide +kernel
theorem dX7_letters_4 : decode cX7_letters 4 = .ok (.istore_n 3, 1) := by decide +kernel
theorem dX7_letters_5 : decode cX7_letters 5 = .ok (.iload_n 3, 1) := by decide +kernel
theorem dX7_letters_6 : decode cX7_letters 6 = .ok (.bipush (-102), 2) := by decide +kernel
theorem dX7_letters_8 : decode cX7_letters 8 = .ok (.if_icmp .ne 6, 3) := by decide +kernel
theorem dX7_letters_11 : decode cX7_letters 11 = .ok (.bipush (-102), 2) := by decide +kernel
theorem dX7_letters_13 : decode cX7_letters 13 = .ok (.ireturn, 1) := by decide +kernel
theorem dX7_letters_14 : decode cX7_letters 14 = .ok (.iload_n 3, 1) := by decide +kernel
theorem dX7_letters_15 : decode cX7_letters 15 = .ok (.bipush 60, 2) := by decide +kernel
theorem dX7_letters_17 : decode cX7_letters 17 = .ok (.aload_n 0, 1) := by decide +kernel
theorem dX7_letters_18 : decode cX7_letters 18 = .ok (.getfield 48, 3) := by decide +kernel
theorem dX7_letters_21 : decode cX7_letters 21 = .ok (.invokevirtual 150, 3) := by decide +kernel
theorem dX7_letters_24 : decode cX7_letters 24 = .ok (.isub, 1) := by decide +kernel
theorem dX7_letters_25 : decode cX7_letters 25 = .ok (.if_icmp .le 8, 3) := by decide +kernel
theorem dX7_letters_28 : decode cX7_letters 28 = .ok (.bipush (-104), 2) := by decide +kernel
theorem dX7_letters_30 : decode cX7_letters 30 = .ok (.goto 12, 3) := by decide +kernel
theorem dX7_letters_33 : decode cX7_letters 33 = .ok (.aload_n 0, 1) := by decide +kernel
theorem dX7_letters_34 : decode cX7_letters 34 = .ok (.getfield 48, 3) := by decide +kernel
theorem dX7_letters_37 : decode cX7_letters 37 = .ok (.lload_n 1, 1) := by decide +kernel
theorem dX7_letters_38 : decode cX7_letters 38 = .ok (.iload_n 3, 1) := by decide +kernel
theorem dX7_letters_39 : decode cX7_letters 39 = .ok (.invokevirtual 151, 3) := by decide +kernel
theorem dX7_letters_42 : decode cX7_letters 42 = .ok (.ireturn, 1) := by decide +kernel
theorem dX7_number_0 : decode cX7_number 0 = .ok (.aload_n 0, 1) := by decide +kernel
theorem dX7_number_1 : decode cX7_number 1 = .ok (.getfield 10, 3) := by decide +kernel
theorem dX7_number_4 : decode cX7_number 4 = .ok (.iload_n 1, 1) := by decide +kernel
theorem dX7_number_5 : decode cX7_number 5 = .ok (.invokevirtual 85, 3) := by decide +kernel
theorem dX7_number_8 : decode cX7_number 8 = .ok (.ifCond .ne 6, 3) := by decide +kernel
theorem dX7_number_11 : decode cX7_number 11 = .ok (.bipush (-101), 2) := by decide +kernel
theorem dX7_number_13 : decode cX7_number 13 = .ok (.ireturn, 1) := by decide +kernel
theorem dX7_number_14 : decode cX7_number 14 = .ok (.iload_n 2, 1) := by decide +kernel
theorem dX7_number_15 : decode cX7_number 15 = .ok (.iconst 1, 1) := by decide +kernel
theorem dX7_number_16 : decode cX7_number 16 = .ok (.bipush 60, 2) := by decide +kernel
theorem dX7_number_18 : decode cX7_number 18 = .ok (.invokestatic 65, 3) := by decide +kernel
theorem dX7_number_21 : decode cX7_number 21 = .ok (.ifCond .eq 15, 3) := by decide +kernel
theorem dX7_number_24 : decode cX7_number 24 = .ok (.iload_n 2, 1) := by decide +kernel
theorem dX7_number_25 : decode cX7_number 25 = .ok (.aload_n 0, 1) := by decide +kernel
theorem dX7_number_26 : decode cX7_number 26 = .ok (.getfield 10, 3) := by decide +kernel
theorem dX7_number_29 : decode cX7_number 29 = .ok (.iload_n 1, 1) := by decide +kernel
theorem dX7_number_30 : decode cX7_number 30 = .ok (.invokevirtual 104, 3) := by decide +kernel
theorem dX7_number_33 : decode cX7_number 33 = .ok (.if_icmp .ge 6, 3) := by decide +kernel
theorem dX7_number_36 : decode cX7_number 36 = .ok (.bipush (-102), 2) := by decide +kernel
theorem dX7_number_38 : decode cX7_number 38 = .ok (.ireturn, 1) := by decide +kernel
theorem dX7_number_39 : decode cX7_number 39 = .ok (.aload_n 0, 1) := by decide +kernel
theorem dX7_number_40 : decode cX7_number 40 = .ok (.getfield 10, 3) := by decide +kernel
theorem dX7_number_43 : decode cX7_number 43 = .ok (.iload_n 1, 1) := by decide +kernel
theorem dX7_number_44 : decode cX7_number 44 = .ok (.iload_n 2, 1) := by decide +kernel
theorem dX7_number_45 : decode cX7_number 45 = .ok (.invokevirtual 107, 3) := by decide +kernel
theorem dX7_number_48 : decode cX7_number 48 = .ok (.ireturn, 1) := by decide +kernel
theorem dX7_open_0 : decode cX7_open 0 = .ok (.iload_n 1, 1) := by decide +kernel
theorem dX7_open_1 : decode cX7_open 1 = .ok (.iload_n 2, 1) := by decide +kernel
theorem dX7_open_2 : decode cX7_open 2 = .ok (.invokestatic 186, 3) := by decide +kernel
theorem dX7_open_5 : decode cX7_open 5 = .ok (.istore_n 3, 1) := by decide +kernel
theorem dX7_open_6 : decode cX7_open 6 = .ok (.iload_n 3, 1) := by decide +kernel
theorem dX7_open_7 : decode cX7_open 7 = .ok (.ifCond .eq 5, 3) := by decide +kernel
theorem dX7_open_10 : decode cX7_open 10 = .ok (.iload_n 3, 1) := by decide +kernel
theorem dX7_open_11 : decode cX7_open 11 = .ok (.ireturn, 1) := by decide +kernel
theorem dX7_open_12 : decode cX7_open 12 = .ok (.aload_n 0, 1) := by decide +kernel
theorem dX7_open_13 : decode cX7_open 13 = .ok (.getfield 57, 3) := by decide +kernel
theorem dX7_open_16 : decode cX7_open 16 = .ok (.aload_n 0, 1) := by decide +kernel
theorem dX7_open_17 : decode cX7_open 17 = .ok (.iload_n 1, 1) := by decide +kernel
theorem dX7_open_18 : decode cX7_open 18 = .ok (.iload_n 2, 1) := by decide +kernel
theorem dX7_open_19 : decode cX7_open 19 = .ok (.invokevirtual 189, 3) := by decide +kernel
theorem dX7_open_22 : decode cX7_open 22 = .ok (.iconst (-1), 1) := by decide +kernel
theorem dX7_open_23 : decode cX7_open 23 = .ok (.iconst 1, 1) := by decide +kernel
theorem dX7_open_24 : decode cX7_open 24 = .ok (.invokevirtual 192, 3) := by decide +kernel
theorem dX7_open_27 : decode cX7_open 27 = .ok (.ifCond .eq 13, 3) := by decide +kernel
theorem dX7_open_30 : decode cX7_open 30 = .ok (.aload_n 0, 1) := by decide +kernel
theorem dX7_open_31 : decode cX7_open 31 = .ok (.getfield 57, 3) := by decide +kernel
theorem dX7_open_34 : decode cX7_open 34 = .ok (.invokevirtual 212, 3) := by decide +kernel
theorem dX7_open_37 : decode cX7_open 37 = .ok (.goto 4, 3) := by decide +kernel
theorem dX7_open_40 : decode cX7_open 40 = .ok (.iconst (-1), 1) := by decide +kernel
theorem dX7_open_41 : decode cX7_open 41 = .ok (.ireturn, 1) := by decide +kernel
theorem dX7_part_0 : decode cX7_part 0 = .ok (.aload_n 0, 1) := by decide +kernel
theorem dX7_part_1 : decode cX7_part 1 = .ok (.getfield 57, 3) := by decide +kernel
theorem dX7_part_4 : decode cX7_part 4 = .ok (.aload_n 0, 1) := by decide +kernel
theorem dX7_part_5 : decode cX7_part 5 = .ok (.iconst 0, 1) := by decide +kernel
theorem dX7_part_6 : decode cX7_part 6 = .ok (.bipush 9, 2) := by decide +kernel
theorem dX7_part_8 : decode cX7_part 8 = .ok (.invokevirtual 189, 3) := by decide +kernel
theorem dX7_part_11 : decode cX7_part 11 = .ok (.iconst (-1), 1) := by decide +kernel
theorem dX7_part_12 : decode cX7_part 12 = .ok (.iconst 1, 1) := by decide +kernel
theorem dX7_part_13 : decode cX7_part 13 = .ok (.invokevirtual 192, 3) := by decide +kernel
theorem dX7_part_16 : decode cX7_part 16 = .ok (.pop, 1) := by decide +kernel
theorem dX7_part_17 : decode cX7_part 17 = .ok (.aload_n 0, 1) := by decide +kernel
theorem dX7_part_18 : decode cX7_part 18 = .ok (.getfield 57, 3) := by decide +kernel
theorem dX7_part_21 : decode cX7_part 21 = .ok (.invokevirtual 215, 3) := by decide +kernel
theorem dX7_part_24 : decode cX7_part 24 = .ok (.aload_n 0, 1) := by decide +kernel
theorem dX7_part_25 : decode cX7_part 25 = .ok (.getfield 57, 3) := by decide +kernel
theorem dX7_part_28 : decode cX7_part 28 = .ok (.aload_n 0, 1) := by decide +kernel
theorem dX7_part_29 : decode cX7_part 29 = .ok (.iconst 1, 1) := by decide +kernel
theorem dX7_part_30 : decode cX7_part 30 = .ok (.bipush 9, 2) := by decide +kernel
theorem dX7_part_32 : decode cX7_part 32 = .ok (.invokevirtual 189, 3) := by decide +kernel
theorem dX7_part_35 : decode cX7_part 35 = .ok (.iconst (-1), 1) := by decide +kernel
theorem dX7_part_36 : decode cX7_part 36 = .ok (.iconst 1, 1) := by decide +kernel
theorem dX7_part_37 : decode cX7_part 37 = .ok (.invokevirtual 192, 3) := by decide +kernel
theorem dX7_part_40 : decode cX7_part 40 = .ok (.pop, 1) := by decide +kernel
theorem dX7_part_41 : decode cX7_part 41 = .ok (.aload_n 0, 1) := by decide +kernel
theorem dX7_part_42 : decode cX7_part 42 = .ok (.getfield 57, 3) := by decide +kernel
theorem dX7_part_45 : decode cX7_part 45 = .ok (.invokevirtual 218, 3) := by decide +kernel
theorem dX7_part_48 : decode cX7_part 48 = .ok (.ireturn, 1) := by decide +kernel
theorem dX7_put_0 : decode cX7_put 0 = .ok (.aload_n 0, 1) := by decide +kernel
theorem dX7_put_1 : decode cX7_put 1 = .ok (.ifnull 17, 3) := by decide +kernel
theorem dX7_put_4 : decode cX7_put 4 = .ok (.iload_n 1, 1) := by decide +kernel
theorem dX7_put_5 : decode cX7_put 5 = .ok (.ifCond .lt 13, 3) := by decide +kernel
theorem dX7_put_8 : decode cX7_put 8 = .ok (.iload_n 1, 1) := by decide +kernel
theorem dX7_put_9 : decode cX7_put 9 = .ok (.aload_n 0, 1) := by decide +kernel
theorem dX7_put_10 : decode cX7_put 10 = .ok (.arraylength, 1) := by decide +kernel
theorem dX7_put_11 : decode cX7_put 11 = .ok (.if_icmp .ge 7, 3) := by decide +kernel
theorem dX7_put_14 : decode cX7_put 14 = .ok (.aload_n 0, 1) := by decide +kernel
theorem dX7_put_15 : decode cX7_put 15 = .ok (.iload_n 1, 1) := by decide +kernel
theorem dX7_put_16 : decode cX7_put 16 = .ok (.iload_n 2, 1) := by decide +kernel
theorem dX7_put_17 : decode cX7_put 17 = .ok (.iastore, 1) := by decide +kernel
theorem dX7_put_18 : decode cX7_put 18 = .ok (.return_, 1) := by decide +kernel
theorem dX7_refusal_0 : decode cX7_refusal 0 = .ok (.iload_n 0, 1) := by decide +kernel
theorem dX7_refusal_1 : decode cX7_refusal 1 = .ok (.invokestatic 161, 3) := by decide +kernel
theorem dX7_refusal_4 : decode cX7_refusal 4 = .ok (.ifCond .ne 6, 3) := by decide +kernel
theorem dX7_refusal_7 : decode cX7_refusal 7 = .ok (.bipush (-101), 2) := by decide +kernel
theorem dX7_refusal_9 : decode cX7_refusal 9 = .ok (.ireturn, 1) := by decide +kernel
theorem dX7_refusal_10 : decode cX7_refusal 10 = .ok (.iload_n 1, 1) := by decide +kernel
theorem dX7_refusal_11 : decode cX7_refusal 11 = .ok (.iconst 0, 1) := by decide +kernel
theorem dX7_refusal_12 : decode cX7_refusal 12 = .ok (.bipush 9, 2) := by decide +kernel
theorem dX7_refusal_14 : decode cX7_refusal 14 = .ok (.invokestatic 65, 3) := by decide +kernel
theorem dX7_refusal_17 : decode cX7_refusal 17 = .ok (.ifCond .eq 7, 3) := by decide +kernel
theorem dX7_refusal_20 : decode cX7_refusal 20 = .ok (.iconst 0, 1) := by decide +kernel
theorem dX7_refusal_21 : decode cX7_refusal 21 = .ok (.goto 5, 3) := by decide +kernel
theorem dX7_refusal_24 : decode cX7_refusal 24 = .ok (.bipush (-102), 2) := by decide +kernel
theorem dX7_refusal_26 : decode cX7_refusal 26 = .ok (.ireturn, 1) := by decide +kernel
theorem dX7_reign_0 : decode cX7_reign 0 = .ok (.iload_n 1, 1) := by decide +kernel
theorem dX7_reign_1 : decode cX7_reign 1 = .ok (.iconst 0, 1) := by decide +kernel
theorem dX7_reign_2 : decode cX7_reign 2 = .ok (.iconst 4, 1) := by decide +kernel
theorem dX7_reign_3 : decode cX7_reign 3 = .ok (.invokestatic 65, 3) := by decide +kernel
theorem dX7_reign_6 : decode cX7_reign 6 = .ok (.ifCond .eq 24, 3) := by decide +kernel
theorem dX7_reign_9 : decode cX7_reign 9 = .ok (.iload_n 2, 1) := by decide +kernel
theorem dX7_reign_10 : decode cX7_reign 10 = .ok (.iconst 0, 1) := by decide +kernel
theorem dX7_reign_11 : decode cX7_reign 11 = .ok (.bipush 6, 2) := by decide +kernel
theorem dX7_reign_13 : decode cX7_reign 13 = .ok (.invokestatic 65, 3) := by decide +kernel
theorem dX7_reign_16 : decode cX7_reign 16 = .ok (.ifCond .eq 14, 3) := by decide +kernel
theorem dX7_reign_19 : decode cX7_reign 19 = .ok (.iload 5, 2) := by decide +kernel
theorem dX7_reign_21 : decode cX7_reign 21 = .ok (.iconst 0, 1) := by decide +kernel
theorem dX7_reign_22 : decode cX7_reign 22 = .ok (.bipush 9, 2) := by decide +kernel
theorem dX7_reign_24 : decode cX7_reign 24 = .ok (.invokestatic 65, 3) := by decide +kernel
theorem dX7_reign_27 : decode cX7_reign 27 = .ok (.ifCond .ne 6, 3) := by decide +kernel
theorem dX7_reign_30 : decode cX7_reign 30 = .ok (.bipush (-102), 2) := by decide +kernel
theorem dX7_reign_32 : decode cX7_reign 32 = .ok (.ireturn, 1) := by decide +kernel
theorem dX7_reign_33 : decode cX7_reign 33 = .ok (.iload_n 3, 1) := by decide +kernel
theorem dX7_reign_34 : decode cX7_reign 34 = .ok (.iconst 1, 1) := by decide +kernel
theorem dX7_reign_35 : decode cX7_reign 35 = .ok (.bipush 60, 2) := by decide +kernel
theorem dX7_reign_37 : decode cX7_reign 37 = .ok (.invokestatic 65, 3) := by decide +kernel
theorem dX7_reign_40 : decode cX7_reign 40 = .ok (.ifCond .eq 23, 3) := by decide +kernel
theorem dX7_reign_43 : decode cX7_reign 43 = .ok (.iload 4, 2) := by decide +kernel
theorem dX7_reign_45 : decode cX7_reign 45 = .ok (.iconst 0, 1) := by decide +kernel
theorem dX7_reign_46 : decode cX7_reign 46 = .ok (.iload_n 2, 1) := by decide +kernel
theorem dX7_reign_47 : decode cX7_reign 47 = .ok (.iconst 1, 1) := by decide +kernel
theorem dX7_reign_48 : decode cX7_reign 48 = .ok (.if_icmp .ne 7, 3) := by decide +kernel
theorem dX7_reign_51 : decode cX7_reign 51 = .ok (.iload_n 3, 1) := by decide +kernel
theorem dX7_reign_52 : decode cX7_reign 52 = .ok (.goto 5, 3) := by decide +kernel
theorem dX7_reign_55 : decode cX7_reign 55 = .ok (.bipush 60, 2) := by decide +kernel
theorem dX7_reign_57 : decode cX7_reign 57 = .ok (.invokestatic 65, 3) := by decide +kernel
theorem dX7_reign_60 : decode cX7_reign 60 = .ok (.ifCond .ne 6, 3) := by decide +kernel
theorem dX7_reign_63 : decode cX7_reign 63 = .ok (.bipush (-102), 2) := by decide +kernel
theorem dX7_reign_65 : decode cX7_reign 65 = .ok (.ireturn, 1) := by decide +kernel
theorem dX7_reign_66 : decode cX7_reign 66 = .ok (.aload_n 0, 1) := by decide +kernel
theorem dX7_reign_67 : decode cX7_reign 67 = .ok (.getfield 10, 3) := by decide +kernel
theorem dX7_reign_70 : decode cX7_reign 70 = .ok (.iload_n 1, 1) := by decide +kernel
theorem dX7_reign_71 : decode cX7_reign 71 = .ok (.invokevirtual 69, 3) := by decide +kernel
theorem dX7_reign_74 : decode cX7_reign 74 = .ok (.istore 6, 2) := by decide +kernel
theorem dX7_reign_76 : decode cX7_reign 76 = .ok (.iload 6, 2) := by decide +kernel
theorem dX7_reign_78 : decode cX7_reign 78 = .ok (.iconst (-1), 1) := by decide +kernel
theorem dX7_reign_79 : decode cX7_reign 79 = .ok (.if_icmp .eq 20, 3) := by decide +kernel
theorem dX7_reign_82 : decode cX7_reign 82 = .ok (.aload_n 0, 1) := by decide +kernel
theorem dX7_reign_83 : decode cX7_reign 83 = .ok (.getfield 10, 3) := by decide +kernel
theorem dX7_reign_86 : decode cX7_reign 86 = .ok (.iload 6, 2) := by decide +kernel
theorem dX7_reign_88 : decode cX7_reign 88 = .ok (.iload 5, 2) := by decide +kernel
theorem dX7_reign_90 : decode cX7_reign 90 = .ok (.invokevirtual 73, 3) := by decide +kernel
theorem dX7_reign_93 : decode cX7_reign 93 = .ok (.ifCond .ne 6, 3) := by decide +kernel
theorem dX7_reign_96 : decode cX7_reign 96 = .ok (.bipush (-102), 2) := by decide +kernel
theorem dX7_reign_98 : decode cX7_reign 98 = .ok (.ireturn, 1) := by decide +kernel
theorem dX7_reign_99 : decode cX7_reign 99 = .ok (.iload_n 2, 1) := by decide +kernel
theorem dX7_reign_100 : decode cX7_reign 100 = .ok (.iconst 1, 1) := by decide +kernel
theorem dX7_reign_101 : decode cX7_reign 101 = .ok (.if_icmp .ne 12, 3) := by decide +kernel
theorem dX7_reign_104 : decode cX7_reign 104 = .ok (.iload 6, 2) := by decide +kernel
theorem dX7_reign_106 : decode cX7_reign 106 = .ok (.iconst (-1), 1) := by decide +kernel
theorem dX7_reign_107 : decode cX7_reign 107 = .ok (.if_icmp .ne 6, 3) := by decide +kernel
theorem dX7_reign_110 : decode cX7_reign 110 = .ok (.bipush (-103), 2) := by decide +kernel
theorem dX7_reign_112 : decode cX7_reign 112 = .ok (.ireturn, 1) := by decide +kernel
theorem dX7_reign_113 : decode cX7_reign 113 = .ok (.aload_n 0, 1) := by decide +kernel
theorem dX7_reign_114 : decode cX7_reign 114 = .ok (.getfield 10, 3) := by decide +kernel
theorem dX7_reign_117 : decode cX7_reign 117 = .ok (.iload_n 2, 1) := by decide +kernel
theorem dX7_reign_118 : decode cX7_reign 118 = .ok (.invokevirtual 77, 3) := by decide +kernel
theorem dX7_reign_121 : decode cX7_reign 121 = .ok (.ifCond .eq 20, 3) := by decide +kernel
theorem dX7_reign_124 : decode cX7_reign 124 = .ok (.aload_n 0, 1) := by decide +kernel
theorem dX7_reign_125 : decode cX7_reign 125 = .ok (.getfield 10, 3) := by decide +kernel
theorem dX7_reign_128 : decode cX7_reign 128 = .ok (.iload_n 1, 1) := by decide +kernel
theorem dX7_reign_129 : decode cX7_reign 129 = .ok (.iload_n 2, 1) := by decide +kernel
theorem dX7_reign_130 : decode cX7_reign 130 = .ok (.iload_n 3, 1) := by decide +kernel
theorem dX7_reign_131 : decode cX7_reign 131 = .ok (.iload 4, 2) := by decide +kernel
theorem dX7_reign_133 : decode cX7_reign 133 = .ok (.iload 5, 2) := by decide +kernel
theorem dX7_reign_135 : decode cX7_reign 135 = .ok (.invokevirtual 81, 3) := by decide +kernel
theorem dX7_reign_138 : decode cX7_reign 138 = .ok (.goto 5, 3) := by decide +kernel
theorem dX7_reign_141 : decode cX7_reign 141 = .ok (.bipush (-104), 2) := by decide +kernel
theorem dX7_reign_143 : decode cX7_reign 143 = .ok (.ireturn, 1) := by decide +kernel
theorem dX7_ring_0 : decode cX7_ring 0 = .ok (.aload_n 0, 1) := by decide +kernel
theorem dX7_ring_1 : decode cX7_ring 1 = .ok (.getfield 10, 3) := by decide +kernel
theorem dX7_ring_4 : decode cX7_ring 4 = .ok (.iload_n 1, 1) := by decide +kernel
theorem dX7_ring_5 : decode cX7_ring 5 = .ok (.invokevirtual 85, 3) := by decide +kernel
theorem dX7_ring_8 : decode cX7_ring 8 = .ok (.ifCond .ne 6, 3) := by decide +kernel
theorem dX7_ring_11 : decode cX7_ring 11 = .ok (.bipush (-101), 2) := by decide +kernel
theorem dX7_ring_13 : decode cX7_ring 13 = .ok (.ireturn, 1) := by decide +kernel
theorem dX7_ring_14 : decode cX7_ring 14 = .ok (.iload_n 2, 1) := by decide +kernel
theorem dX7_ring_15 : decode cX7_ring 15 = .ok (.iload_n 2, 1) := by decide +kernel
theorem dX7_ring_16 : decode cX7_ring 16 = .ok (.invokestatic 113, 3) := by decide +kernel
theorem dX7_ring_19 : decode cX7_ring 19 = .ok (.ifCond .eq 21, 3) := by decide +kernel
theorem dX7_ring_22 : decode cX7_ring 22 = .ok (.iload_n 3, 1) := by decide +kernel
theorem dX7_ring_23 : decode cX7_ring 23 = .ok (.invokestatic 123, 3) := by decide +kernel
theorem dX7_ring_26 : decode cX7_ring 26 = .ok (.ifCond .eq 14, 3) := by decide +kernel
theorem dX7_ring_29 : decode cX7_ring 29 = .ok (.iload 4, 2) := by decide +kernel
theorem dX7_ring_31 : decode cX7_ring 31 = .ok (.iconst 0, 1) := by decide +kernel
theorem dX7_ring_32 : decode cX7_ring 32 = .ok (.bipush 9, 2) := by decide +kernel
theorem dX7_ring_34 : decode cX7_ring 34 = .ok (.invokestatic 65, 3) := by decide +kernel
theorem dX7_ring_37 : decode cX7_ring 37 = .ok (.ifCond .ne 6, 3) := by decide +kernel
theorem dX7_ring_40 : decode cX7_ring 40 = .ok (.bipush (-102), 2) := by decide +kernel
theorem dX7_ring_42 : decode cX7_ring 42 = .ok (.ireturn, 1) := by decide +kernel
theorem dX7_ring_43 : decode cX7_ring 43 = .ok (.aload_n 0, 1) := by decide +kernel
theorem dX7_ring_44 : decode cX7_ring 44 = .ok (.getfield 21, 3) := by decide +kernel
theorem dX7_ring_47 : decode cX7_ring 47 = .ok (.invokevirtual 116, 3) := by decide +kernel
theorem dX7_ring_50 : decode cX7_ring 50 = .ok (.ifCond .eq 8, 3) := by decide +kernel
theorem dX7_ring_53 : decode cX7_ring 53 = .ok (.bipush (-104), 2) := by decide +kernel
theorem dX7_ring_55 : decode cX7_ring 55 = .ok (.goto 15, 3) := by decide +kernel
theorem dX7_ring_58 : decode cX7_ring 58 = .ok (.aload_n 0, 1) := by decide +kernel
theorem dX7_ring_59 : decode cX7_ring 59 = .ok (.getfield 21, 3) := by decide +kernel
theorem dX7_ring_62 : decode cX7_ring 62 = .ok (.iload_n 1, 1) := by decide +kernel
theorem dX7_ring_63 : decode cX7_ring 63 = .ok (.iload_n 2, 1) := by decide +kernel
theorem dX7_ring_64 : decode cX7_ring 64 = .ok (.iload_n 3, 1) := by decide +kernel
theorem dX7_ring_65 : decode cX7_ring 65 = .ok (.iload 4, 2) := by decide +kernel
theorem dX7_ring_67 : decode cX7_ring 67 = .ok (.invokevirtual 133, 3) := by decide +kernel
theorem dX7_ring_70 : decode cX7_ring 70 = .ok (.ireturn, 1) := by decide +kernel
theorem dX7_sayingsDigest_0 : decode cX7_sayingsDigest 0 = .ok (.lload_n 1, 1) := by decide +kernel
theorem dX7_sayingsDigest_1 : decode cX7_sayingsDigest 1 = .ok (.lstore 4, 2) := by decide +kernel
theorem dX7_sayingsDigest_3 : decode cX7_sayingsDigest 3 = .ok (.iconst 0, 1) := by decide +kernel
theorem dX7_sayingsDigest_4 : decode cX7_sayingsDigest 4 = .ok (.istore 6, 2) := by decide +kernel
theorem dX7_sayingsDigest_6 : decode cX7_sayingsDigest 6 = .ok (.iload 6, 2) := by decide +kernel
theorem dX7_sayingsDigest_8 : decode cX7_sayingsDigest 8 = .ok (.aload_n 0, 1) := by decide +kernel
theorem dX7_sayingsDigest_9 : decode cX7_sayingsDigest 9 = .ok (.getfield 10, 3) := by decide +kernel
theorem dX7_sayingsDigest_12 : decode cX7_sayingsDigest 12 = .ok (.invokevirtual 227, 3) := by decide +kernel
theorem dX7_sayingsDigest_15 : decode cX7_sayingsDigest 15 = .ok (.if_icmp .ge 26, 3) := by decide +kernel
theorem dX7_sayingsDigest_18 : decode cX7_sayingsDigest 18 = .ok (.ldc2_w 246, 3) := by decide +kernel
theorem dX7_sayingsDigest_21 : decode cX7_sayingsDigest 21 = .ok (.lload 4, 2) := by decide +kernel
theorem dX7_sayingsDigest_23 : decode cX7_sayingsDigest 23 = .ok (.lmul, 1) := by decide +kernel
theorem dX7_sayingsDigest_24 : decode cX7_sayingsDigest 24 = .ok (.aload_n 0, 1) := by decide +kernel
theorem dX7_sayingsDigest_25 : decode cX7_sayingsDigest 25 = .ok (.iload_n 3, 1) := by decide +kernel
theorem dX7_sayingsDigest_26 : decode cX7_sayingsDigest 26 = .ok (.iload 6, 2) := by decide +kernel
theorem dX7_sayingsDigest_28 : decode cX7_sayingsDigest 28 = .ok (.invokevirtual 180, 3) := by decide +kernel
theorem dX7_sayingsDigest_31 : decode cX7_sayingsDigest 31 = .ok (.i2l, 1) := by decide +kernel
theorem dX7_sayingsDigest_32 : decode cX7_sayingsDigest 32 = .ok (.ladd, 1) := by decide +kernel
theorem dX7_sayingsDigest_33 : decode cX7_sayingsDigest 33 = .ok (.lstore 4, 2) := by decide +kernel
theorem dX7_sayingsDigest_35 : decode cX7_sayingsDigest 35 = .ok (.iinc 6 1, 3) := by decide +kernel
theorem dX7_sayingsDigest_38 : decode cX7_sayingsDigest 38 = .ok (.goto (-32), 3) := by decide +kernel
theorem dX7_sayingsDigest_41 : decode cX7_sayingsDigest 41 = .ok (.iconst 0, 1) := by decide +kernel
theorem dX7_sayingsDigest_42 : decode cX7_sayingsDigest 42 = .ok (.istore 6, 2) := by decide +kernel
theorem dX7_sayingsDigest_44 : decode cX7_sayingsDigest 44 = .ok (.iload 6, 2) := by decide +kernel
theorem dX7_sayingsDigest_46 : decode cX7_sayingsDigest 46 = .ok (.aload_n 0, 1) := by decide +kernel
theorem dX7_sayingsDigest_47 : decode cX7_sayingsDigest 47 = .ok (.getfield 21, 3) := by decide +kernel
theorem dX7_sayingsDigest_50 : decode cX7_sayingsDigest 50 = .ok (.invokevirtual 139, 3) := by decide +kernel
theorem dX7_sayingsDigest_53 : decode cX7_sayingsDigest 53 = .ok (.if_icmp .ge 26, 3) := by decide +kernel
theorem dX7_sayingsDigest_56 : decode cX7_sayingsDigest 56 = .ok (.ldc2_w 246, 3) := by decide +kernel
theorem dX7_sayingsDigest_59 : decode cX7_sayingsDigest 59 = .ok (.lload 4, 2) := by decide +kernel
theorem dX7_sayingsDigest_61 : decode cX7_sayingsDigest 61 = .ok (.lmul, 1) := by decide +kernel
theorem dX7_sayingsDigest_62 : decode cX7_sayingsDigest 62 = .ok (.aload_n 0, 1) := by decide +kernel
theorem dX7_sayingsDigest_63 : decode cX7_sayingsDigest 63 = .ok (.iload_n 3, 1) := by decide +kernel
theorem dX7_sayingsDigest_64 : decode cX7_sayingsDigest 64 = .ok (.iload 6, 2) := by decide +kernel
theorem dX7_sayingsDigest_66 : decode cX7_sayingsDigest 66 = .ok (.invokevirtual 183, 3) := by decide +kernel
theorem dX7_sayingsDigest_69 : decode cX7_sayingsDigest 69 = .ok (.i2l, 1) := by decide +kernel
theorem dX7_sayingsDigest_70 : decode cX7_sayingsDigest 70 = .ok (.ladd, 1) := by decide +kernel
theorem dX7_sayingsDigest_71 : decode cX7_sayingsDigest 71 = .ok (.lstore 4, 2) := by decide +kernel
theorem dX7_sayingsDigest_73 : decode cX7_sayingsDigest 73 = .ok (.iinc 6 1, 3) := by decide +kernel
theorem dX7_sayingsDigest_76 : decode cX7_sayingsDigest 76 = .ok (.goto (-32), 3) := by decide +kernel
theorem dX7_sayingsDigest_79 : decode cX7_sayingsDigest 79 = .ok (.lload 4, 2) := by decide +kernel
theorem dX7_sayingsDigest_81 : decode cX7_sayingsDigest 81 = .ok (.lreturn, 1) := by decide +kernel
theorem dX7_schoolOf_0 : decode cX7_schoolOf 0 = .ok (.iload_n 1, 1) := by decide +kernel
theorem dX7_schoolOf_1 : decode cX7_schoolOf 1 = .ok (.ifCond .ne 10, 3) := by decide +kernel
theorem dX7_schoolOf_4 : decode cX7_schoolOf 4 = .ok (.aload_n 0, 1) := by decide +kernel
theorem dX7_schoolOf_5 : decode cX7_schoolOf 5 = .ok (.getfield 31, 3) := by decide +kernel
theorem dX7_schoolOf_8 : decode cX7_schoolOf 8 = .ok (.goto 7, 3) := by decide +kernel
theorem dX7_schoolOf_11 : decode cX7_schoolOf 11 = .ok (.aload_n 0, 1) := by decide +kernel
theorem dX7_schoolOf_12 : decode cX7_schoolOf 12 = .ok (.getfield 35, 3) := by decide +kernel
theorem dX7_schoolOf_15 : decode cX7_schoolOf 15 = .ok (.areturn, 1) := by decide +kernel
theorem dX7_sky_0 : decode cX7_sky 0 = .ok (.aload_n 0, 1) := by decide +kernel
theorem dX7_sky_1 : decode cX7_sky 1 = .ok (.getfield 10, 3) := by decide +kernel
theorem dX7_sky_4 : decode cX7_sky 4 = .ok (.iload_n 1, 1) := by decide +kernel
theorem dX7_sky_5 : decode cX7_sky 5 = .ok (.invokevirtual 85, 3) := by decide +kernel
theorem dX7_sky_8 : decode cX7_sky 8 = .ok (.ifCond .ne 6, 3) := by decide +kernel
theorem dX7_sky_11 : decode cX7_sky 11 = .ok (.bipush (-101), 2) := by decide +kernel
theorem dX7_sky_13 : decode cX7_sky 13 = .ok (.ireturn, 1) := by decide +kernel
theorem dX7_sky_14 : decode cX7_sky 14 = .ok (.iload_n 2, 1) := by decide +kernel
theorem dX7_sky_15 : decode cX7_sky 15 = .ok (.iload_n 2, 1) := by decide +kernel
theorem dX7_sky_16 : decode cX7_sky 16 = .ok (.invokestatic 113, 3) := by decide +kernel
theorem dX7_sky_19 : decode cX7_sky 19 = .ok (.ifCond .eq 37, 3) := by decide +kernel
theorem dX7_sky_22 : decode cX7_sky 22 = .ok (.iload_n 3, 1) := by decide +kernel
theorem dX7_sky_23 : decode cX7_sky 23 = .ok (.invokestatic 123, 3) := by decide +kernel
theorem dX7_sky_26 : decode cX7_sky 26 = .ok (.ifCond .eq 30, 3) := by decide +kernel
theorem dX7_sky_29 : decode cX7_sky 29 = .ok (.iload 4, 2) := by decide +kernel
theorem dX7_sky_31 : decode cX7_sky 31 = .ok (.invokestatic 123, 3) := by decide +kernel
theorem dX7_sky_34 : decode cX7_sky 34 = .ok (.ifCond .eq 22, 3) := by decide +kernel
theorem dX7_sky_37 : decode cX7_sky 37 = .ok (.iload 5, 2) := by decide +kernel
theorem dX7_sky_39 : decode cX7_sky 39 = .ok (.invokestatic 123, 3) := by decide +kernel
theorem dX7_sky_42 : decode cX7_sky 42 = .ok (.ifCond .eq 14, 3) := by decide +kernel
theorem dX7_sky_45 : decode cX7_sky 45 = .ok (.iload 6, 2) := by decide +kernel
theorem dX7_sky_47 : decode cX7_sky 47 = .ok (.iconst 0, 1) := by decide +kernel
theorem dX7_sky_48 : decode cX7_sky 48 = .ok (.bipush 9, 2) := by decide +kernel
theorem dX7_sky_50 : decode cX7_sky 50 = .ok (.invokestatic 65, 3) := by decide +kernel
theorem dX7_sky_53 : decode cX7_sky 53 = .ok (.ifCond .ne 6, 3) := by decide +kernel
theorem dX7_sky_56 : decode cX7_sky 56 = .ok (.bipush (-102), 2) := by decide +kernel
theorem dX7_sky_58 : decode cX7_sky 58 = .ok (.ireturn, 1) := by decide +kernel
theorem dX7_sky_59 : decode cX7_sky 59 = .ok (.aload_n 0, 1) := by decide +kernel
theorem dX7_sky_60 : decode cX7_sky 60 = .ok (.getfield 21, 3) := by decide +kernel
theorem dX7_sky_63 : decode cX7_sky 63 = .ok (.invokevirtual 116, 3) := by decide +kernel
theorem dX7_sky_66 : decode cX7_sky 66 = .ok (.ifCond .ne 13, 3) := by decide +kernel
theorem dX7_sky_69 : decode cX7_sky 69 = .ok (.aload_n 0, 1) := by decide +kernel
theorem dX7_sky_70 : decode cX7_sky 70 = .ok (.getfield 21, 3) := by decide +kernel
theorem dX7_sky_73 : decode cX7_sky 73 = .ok (.invokevirtual 126, 3) := by decide +kernel
theorem dX7_sky_76 : decode cX7_sky 76 = .ok (.ifCond .eq 8, 3) := by decide +kernel
theorem dX7_sky_79 : decode cX7_sky 79 = .ok (.bipush (-104), 2) := by decide +kernel
theorem dX7_sky_81 : decode cX7_sky 81 = .ok (.goto 19, 3) := by decide +kernel
theorem dX7_sky_84 : decode cX7_sky 84 = .ok (.aload_n 0, 1) := by decide +kernel
theorem dX7_sky_85 : decode cX7_sky 85 = .ok (.getfield 21, 3) := by decide +kernel
theorem dX7_sky_88 : decode cX7_sky 88 = .ok (.iload_n 1, 1) := by decide +kernel
theorem dX7_sky_89 : decode cX7_sky 89 = .ok (.iload_n 2, 1) := by decide +kernel
theorem dX7_sky_90 : decode cX7_sky 90 = .ok (.iload_n 3, 1) := by decide +kernel
theorem dX7_sky_91 : decode cX7_sky 91 = .ok (.iload 4, 2) := by decide +kernel
theorem dX7_sky_93 : decode cX7_sky 93 = .ok (.iload 5, 2) := by decide +kernel
theorem dX7_sky_95 : decode cX7_sky 95 = .ok (.iload 6, 2) := by decide +kernel
theorem dX7_sky_97 : decode cX7_sky 97 = .ok (.invokevirtual 129, 3) := by decide +kernel
theorem dX7_sky_100 : decode cX7_sky 100 = .ok (.ireturn, 1) := by decide +kernel
theorem dX7_span_0 : decode cX7_span 0 = .ok (.iload_n 1, 1) := by decide +kernel
theorem dX7_span_1 : decode cX7_span 1 = .ok (.iload_n 2, 1) := by decide +kernel
theorem dX7_span_2 : decode cX7_span 2 = .ok (.invokestatic 186, 3) := by decide +kernel
theorem dX7_span_5 : decode cX7_span 5 = .ok (.istore 5, 2) := by decide +kernel
theorem dX7_span_7 : decode cX7_span 7 = .ok (.iload 5, 2) := by decide +kernel
theorem dX7_span_9 : decode cX7_span 9 = .ok (.ifCond .eq 20, 3) := by decide +kernel
theorem dX7_span_12 : decode cX7_span 12 = .ok (.iload 5, 2) := by decide +kernel
theorem dX7_span_14 : decode cX7_span 14 = .ok (.bipush (-101), 2) := by decide +kernel
theorem dX7_span_16 : decode cX7_span 16 = .ok (.if_icmp .ne 9, 3) := by decide +kernel
theorem dX7_span_19 : decode cX7_span 19 = .ok (.sipush (-9001), 3) := by decide +kernel
theorem dX7_span_22 : decode cX7_span 22 = .ok (.goto 6, 3) := by decide +kernel
theorem dX7_span_25 : decode cX7_span 25 = .ok (.sipush (-9002), 3) := by decide +kernel
theorem dX7_span_28 : decode cX7_span 28 = .ok (.ireturn, 1) := by decide +kernel
theorem dX7_span_29 : decode cX7_span 29 = .ok (.aload_n 0, 1) := by decide +kernel
theorem dX7_span_30 : decode cX7_span 30 = .ok (.getfield 10, 3) := by decide +kernel
theorem dX7_span_33 : decode cX7_span 33 = .ok (.iload_n 3, 1) := by decide +kernel
theorem dX7_span_34 : decode cX7_span 34 = .ok (.invokevirtual 85, 3) := by decide +kernel
theorem dX7_span_37 : decode cX7_span 37 = .ok (.ifCond .ne 7, 3) := by decide +kernel
theorem dX7_span_40 : decode cX7_span 40 = .ok (.sipush (-9001), 3) := by decide +kernel
theorem dX7_span_43 : decode cX7_span 43 = .ok (.ireturn, 1) := by decide +kernel
theorem dX7_span_44 : decode cX7_span 44 = .ok (.iload 4, 2) := by decide +kernel
theorem dX7_span_46 : decode cX7_span 46 = .ok (.iconst 0, 1) := by decide +kernel
theorem dX7_span_47 : decode cX7_span 47 = .ok (.iconst 1, 1) := by decide +kernel
theorem dX7_span_48 : decode cX7_span 48 = .ok (.invokestatic 65, 3) := by decide +kernel
theorem dX7_span_51 : decode cX7_span 51 = .ok (.ifCond .ne 7, 3) := by decide +kernel
theorem dX7_span_54 : decode cX7_span 54 = .ok (.sipush (-9002), 3) := by decide +kernel
theorem dX7_span_57 : decode cX7_span 57 = .ok (.ireturn, 1) := by decide +kernel
theorem dX7_span_58 : decode cX7_span 58 = .ok (.aload_n 0, 1) := by decide +kernel
theorem dX7_span_59 : decode cX7_span 59 = .ok (.getfield 57, 3) := by decide +kernel
theorem dX7_span_62 : decode cX7_span 62 = .ok (.aload_n 0, 1) := by decide +kernel
theorem dX7_span_63 : decode cX7_span 63 = .ok (.iload_n 1, 1) := by decide +kernel
theorem dX7_span_64 : decode cX7_span 64 = .ok (.iload_n 2, 1) := by decide +kernel
theorem dX7_span_65 : decode cX7_span 65 = .ok (.invokevirtual 189, 3) := by decide +kernel
theorem dX7_span_68 : decode cX7_span 68 = .ok (.iconst (-1), 1) := by decide +kernel
theorem dX7_span_69 : decode cX7_span 69 = .ok (.iconst 1, 1) := by decide +kernel
theorem dX7_span_70 : decode cX7_span 70 = .ok (.invokevirtual 192, 3) := by decide +kernel
theorem dX7_span_73 : decode cX7_span 73 = .ok (.pop, 1) := by decide +kernel
theorem dX7_span_74 : decode cX7_span 74 = .ok (.aload_n 0, 1) := by decide +kernel
theorem dX7_span_75 : decode cX7_span 75 = .ok (.getfield 57, 3) := by decide +kernel
theorem dX7_span_78 : decode cX7_span 78 = .ok (.iload_n 3, 1) := by decide +kernel
theorem dX7_span_79 : decode cX7_span 79 = .ok (.iload 4, 2) := by decide +kernel
theorem dX7_span_81 : decode cX7_span 81 = .ok (.invokevirtual 196, 3) := by decide +kernel
theorem dX7_span_84 : decode cX7_span 84 = .ok (.ireturn, 1) := by decide +kernel
theorem dX7_strike_0 : decode cX7_strike 0 = .ok (.iload_n 1, 1) := by decide +kernel
theorem dX7_strike_1 : decode cX7_strike 1 = .ok (.invokestatic 161, 3) := by decide +kernel
theorem dX7_strike_4 : decode cX7_strike 4 = .ok (.ifCond .ne 6, 3) := by decide +kernel
theorem dX7_strike_7 : decode cX7_strike 7 = .ok (.bipush (-101), 2) := by decide +kernel
theorem dX7_strike_9 : decode cX7_strike 9 = .ok (.ireturn, 1) := by decide +kernel
theorem dX7_strike_10 : decode cX7_strike 10 = .ok (.aload_n 0, 1) := by decide +kernel
theorem dX7_strike_11 : decode cX7_strike 11 = .ok (.iload_n 1, 1) := by decide +kernel
theorem dX7_strike_12 : decode cX7_strike 12 = .ok (.invokevirtual 167, 3) := by decide +kernel
theorem dX7_strike_15 : decode cX7_strike 15 = .ok (.invokevirtual 176, 3) := by decide +kernel
theorem dX7_strike_18 : decode cX7_strike 18 = .ok (.ifCond .le 14, 3) := by decide +kernel
theorem dX7_strike_21 : decode cX7_strike 21 = .ok (.aload_n 0, 1) := by decide +kernel
theorem dX7_strike_22 : decode cX7_strike 22 = .ok (.iload_n 1, 1) := by decide +kernel
theorem dX7_strike_23 : decode cX7_strike 23 = .ok (.invokevirtual 167, 3) := by decide +kernel
theorem dX7_strike_26 : decode cX7_strike 26 = .ok (.invokevirtual 177, 3) := by decide +kernel
theorem dX7_strike_29 : decode cX7_strike 29 = .ok (.goto 5, 3) := by decide +kernel
theorem dX7_strike_32 : decode cX7_strike 32 = .ok (.bipush (-103), 2) := by decide +kernel
theorem dX7_strike_34 : decode cX7_strike 34 = .ok (.ireturn, 1) := by decide +kernel
theorem dX7_tell_0 : decode cX7_tell 0 = .ok (.aload_n 0, 1) := by decide +kernel
theorem dX7_tell_1 : decode cX7_tell 1 = .ok (.getfield 10, 3) := by decide +kernel
theorem dX7_tell_4 : decode cX7_tell 4 = .ok (.iload_n 1, 1) := by decide +kernel
theorem dX7_tell_5 : decode cX7_tell 5 = .ok (.invokevirtual 85, 3) := by decide +kernel
theorem dX7_tell_8 : decode cX7_tell 8 = .ok (.ifCond .ne 7, 3) := by decide +kernel
theorem dX7_tell_11 : decode cX7_tell 11 = .ok (.sipush (-9001), 3) := by decide +kernel
theorem dX7_tell_14 : decode cX7_tell 14 = .ok (.ireturn, 1) := by decide +kernel
theorem dX7_tell_15 : decode cX7_tell 15 = .ok (.iload_n 2, 1) := by decide +kernel
theorem dX7_tell_16 : decode cX7_tell 16 = .ok (.invokestatic 123, 3) := by decide +kernel
theorem dX7_tell_19 : decode cX7_tell 19 = .ok (.ifCond .eq 15, 3) := by decide +kernel
theorem dX7_tell_22 : decode cX7_tell 22 = .ok (.aload_n 0, 1) := by decide +kernel
theorem dX7_tell_23 : decode cX7_tell 23 = .ok (.getfield 10, 3) := by decide +kernel
theorem dX7_tell_26 : decode cX7_tell 26 = .ok (.iload_n 1, 1) := by decide +kernel
theorem dX7_tell_27 : decode cX7_tell 27 = .ok (.iload_n 2, 1) := by decide +kernel
theorem dX7_tell_28 : decode cX7_tell 28 = .ok (.invokevirtual 224, 3) := by decide +kernel
theorem dX7_tell_31 : decode cX7_tell 31 = .ok (.goto 6, 3) := by decide +kernel
theorem dX7_tell_34 : decode cX7_tell 34 = .ok (.sipush (-9002), 3) := by decide +kernel
theorem dX7_tell_37 : decode cX7_tell 37 = .ok (.ireturn, 1) := by decide +kernel
theorem dX7_text_0 : decode cX7_text 0 = .ok (.iload_n 1, 1) := by decide +kernel
theorem dX7_text_1 : decode cX7_text 1 = .ok (.invokestatic 161, 3) := by decide +kernel
theorem dX7_text_4 : decode cX7_text 4 = .ok (.ifCond .ne 6, 3) := by decide +kernel
theorem dX7_text_7 : decode cX7_text 7 = .ok (.bipush (-101), 2) := by decide +kernel
theorem dX7_text_9 : decode cX7_text 9 = .ok (.ireturn, 1) := by decide +kernel
theorem dX7_text_10 : decode cX7_text 10 = .ok (.aload_n 0, 1) := by decide +kernel
theorem dX7_text_11 : decode cX7_text 11 = .ok (.getfield 48, 3) := by decide +kernel
theorem dX7_text_14 : decode cX7_text 14 = .ok (.invokevirtual 164, 3) := by decide +kernel
theorem dX7_text_17 : decode cX7_text 17 = .ok (.ifCond .ne 6, 3) := by decide +kernel
theorem dX7_text_20 : decode cX7_text 20 = .ok (.bipush (-103), 2) := by decide +kernel
theorem dX7_text_22 : decode cX7_text 22 = .ok (.ireturn, 1) := by decide +kernel
theorem dX7_text_23 : decode cX7_text 23 = .ok (.aload_n 0, 1) := by decide +kernel
theorem dX7_text_24 : decode cX7_text 24 = .ok (.iload_n 1, 1) := by decide +kernel
theorem dX7_text_25 : decode cX7_text 25 = .ok (.invokevirtual 167, 3) := by decide +kernel
theorem dX7_text_28 : decode cX7_text 28 = .ok (.invokevirtual 171, 3) := by decide +kernel
theorem dX7_text_31 : decode cX7_text 31 = .ok (.ifCond .eq 6, 3) := by decide +kernel
theorem dX7_text_34 : decode cX7_text 34 = .ok (.bipush (-104), 2) := by decide +kernel
theorem dX7_text_36 : decode cX7_text 36 = .ok (.ireturn, 1) := by decide +kernel
theorem dX7_text_37 : decode cX7_text 37 = .ok (.aload_n 0, 1) := by decide +kernel
theorem dX7_text_38 : decode cX7_text 38 = .ok (.iload_n 1, 1) := by decide +kernel
theorem dX7_text_39 : decode cX7_text 39 = .ok (.invokevirtual 167, 3) := by decide +kernel
theorem dX7_text_42 : decode cX7_text 42 = .ok (.aload_n 0, 1) := by decide +kernel
theorem dX7_text_43 : decode cX7_text 43 = .ok (.getfield 48, 3) := by decide +kernel
theorem dX7_text_46 : decode cX7_text 46 = .ok (.invokevirtual 172, 3) := by decide +kernel
theorem dX7_text_49 : decode cX7_text 49 = .ok (.istore_n 2, 1) := by decide +kernel
theorem dX7_text_50 : decode cX7_text 50 = .ok (.aload_n 0, 1) := by decide +kernel
theorem dX7_text_51 : decode cX7_text 51 = .ok (.getfield 48, 3) := by decide +kernel
theorem dX7_text_54 : decode cX7_text 54 = .ok (.invokevirtual 155, 3) := by decide +kernel
theorem dX7_text_57 : decode cX7_text 57 = .ok (.pop, 1) := by decide +kernel
theorem dX7_text_58 : decode cX7_text 58 = .ok (.iload_n 2, 1) := by decide +kernel
theorem dX7_text_59 : decode cX7_text 59 = .ok (.ireturn, 1) := by decide +kernel
theorem dX7_tie_0 : decode cX7_tie 0 = .ok (.aload_n 0, 1) := by decide +kernel
theorem dX7_tie_1 : decode cX7_tie 1 = .ok (.iload_n 1, 1) := by decide +kernel
theorem dX7_tie_2 : decode cX7_tie 2 = .ok (.iload_n 3, 1) := by decide +kernel
theorem dX7_tie_3 : decode cX7_tie 3 = .ok (.invokevirtual 110, 3) := by decide +kernel
theorem dX7_tie_6 : decode cX7_tie 6 = .ok (.ifCond .ne 6, 3) := by decide +kernel
theorem dX7_tie_9 : decode cX7_tie 9 = .ok (.bipush (-101), 2) := by decide +kernel
theorem dX7_tie_11 : decode cX7_tie 11 = .ok (.ireturn, 1) := by decide +kernel
theorem dX7_tie_12 : decode cX7_tie 12 = .ok (.iload_n 2, 1) := by decide +kernel
theorem dX7_tie_13 : decode cX7_tie 13 = .ok (.iload 4, 2) := by decide +kernel
theorem dX7_tie_15 : decode cX7_tie 15 = .ok (.invokestatic 113, 3) := by decide +kernel
theorem dX7_tie_18 : decode cX7_tie 18 = .ok (.ifCond .eq 25, 3) := by decide +kernel
theorem dX7_tie_21 : decode cX7_tie 21 = .ok (.iload 5, 2) := by decide +kernel
theorem dX7_tie_23 : decode cX7_tie 23 = .ok (.iconst 0, 1) := by decide +kernel
theorem dX7_tie_24 : decode cX7_tie 24 = .ok (.bipush 20, 2) := by decide +kernel
theorem dX7_tie_26 : decode cX7_tie 26 = .ok (.invokestatic 65, 3) := by decide +kernel
theorem dX7_tie_29 : decode cX7_tie 29 = .ok (.ifCond .eq 14, 3) := by decide +kernel
theorem dX7_tie_32 : decode cX7_tie 32 = .ok (.iload 6, 2) := by decide +kernel
theorem dX7_tie_34 : decode cX7_tie 34 = .ok (.iconst 0, 1) := by decide +kernel
theorem dX7_tie_35 : decode cX7_tie 35 = .ok (.bipush 9, 2) := by decide +kernel
theorem dX7_tie_37 : decode cX7_tie 37 = .ok (.invokestatic 65, 3) := by decide +kernel
theorem dX7_tie_40 : decode cX7_tie 40 = .ok (.ifCond .ne 6, 3) := by decide +kernel
theorem dX7_tie_43 : decode cX7_tie 43 = .ok (.bipush (-102), 2) := by decide +kernel
theorem dX7_tie_45 : decode cX7_tie 45 = .ok (.ireturn, 1) := by decide +kernel
theorem dX7_tie_46 : decode cX7_tie 46 = .ok (.aload_n 0, 1) := by decide +kernel
theorem dX7_tie_47 : decode cX7_tie 47 = .ok (.getfield 21, 3) := by decide +kernel
theorem dX7_tie_50 : decode cX7_tie 50 = .ok (.invokevirtual 116, 3) := by decide +kernel
theorem dX7_tie_53 : decode cX7_tie 53 = .ok (.ifCond .eq 8, 3) := by decide +kernel
theorem dX7_tie_56 : decode cX7_tie 56 = .ok (.bipush (-104), 2) := by decide +kernel
theorem dX7_tie_58 : decode cX7_tie 58 = .ok (.goto 20, 3) := by decide +kernel
theorem dX7_tie_61 : decode cX7_tie 61 = .ok (.aload_n 0, 1) := by decide +kernel
theorem dX7_tie_62 : decode cX7_tie 62 = .ok (.getfield 21, 3) := by decide +kernel
theorem dX7_tie_65 : decode cX7_tie 65 = .ok (.iconst 0, 1) := by decide +kernel
theorem dX7_tie_66 : decode cX7_tie 66 = .ok (.iload_n 1, 1) := by decide +kernel
theorem dX7_tie_67 : decode cX7_tie 67 = .ok (.iload_n 2, 1) := by decide +kernel
theorem dX7_tie_68 : decode cX7_tie 68 = .ok (.iload_n 3, 1) := by decide +kernel
theorem dX7_tie_69 : decode cX7_tie 69 = .ok (.iload 4, 2) := by decide +kernel
theorem dX7_tie_71 : decode cX7_tie 71 = .ok (.iload 5, 2) := by decide +kernel
theorem dX7_tie_73 : decode cX7_tie 73 = .ok (.iload 6, 2) := by decide +kernel
theorem dX7_tie_75 : decode cX7_tie 75 = .ok (.invokevirtual 120, 3) := by decide +kernel
theorem dX7_tie_78 : decode cX7_tie 78 = .ok (.ireturn, 1) := by decide +kernel
theorem dX7_tied_0 : decode cX7_tied 0 = .ok (.aload_n 0, 1) := by decide +kernel
theorem dX7_tied_1 : decode cX7_tied 1 = .ok (.getfield 21, 3) := by decide +kernel
theorem dX7_tied_4 : decode cX7_tied 4 = .ok (.iload_n 1, 1) := by decide +kernel
theorem dX7_tied_5 : decode cX7_tied 5 = .ok (.invokevirtual 137, 3) := by decide +kernel
theorem dX7_tied_8 : decode cX7_tied 8 = .ok (.ifCond .ne 6, 3) := by decide +kernel
theorem dX7_tied_11 : decode cX7_tied 11 = .ok (.bipush (-101), 2) := by decide +kernel
theorem dX7_tied_13 : decode cX7_tied 13 = .ok (.ireturn, 1) := by decide +kernel
theorem dX7_tied_14 : decode cX7_tied 14 = .ok (.iload_n 2, 1) := by decide +kernel
theorem dX7_tied_15 : decode cX7_tied 15 = .ok (.iconst 0, 1) := by decide +kernel
theorem dX7_tied_16 : decode cX7_tied 16 = .ok (.bipush 6, 2) := by decide +kernel
theorem dX7_tied_18 : decode cX7_tied 18 = .ok (.invokestatic 65, 3) := by decide +kernel
theorem dX7_tied_21 : decode cX7_tied 21 = .ok (.ifCond .eq 15, 3) := by decide +kernel
theorem dX7_tied_24 : decode cX7_tied 24 = .ok (.aload_n 0, 1) := by decide +kernel
theorem dX7_tied_25 : decode cX7_tied 25 = .ok (.getfield 21, 3) := by decide +kernel
theorem dX7_tied_28 : decode cX7_tied 28 = .ok (.iload_n 1, 1) := by decide +kernel
theorem dX7_tied_29 : decode cX7_tied 29 = .ok (.iload_n 2, 1) := by decide +kernel
theorem dX7_tied_30 : decode cX7_tied 30 = .ok (.invokevirtual 138, 3) := by decide +kernel
theorem dX7_tied_33 : decode cX7_tied 33 = .ok (.goto 5, 3) := by decide +kernel
theorem dX7_tied_36 : decode cX7_tied 36 = .ok (.bipush (-102), 2) := by decide +kernel
theorem dX7_tied_38 : decode cX7_tied 38 = .ok (.ireturn, 1) := by decide +kernel
theorem dX7_undo_0 : decode cX7_undo 0 = .ok (.aload_n 0, 1) := by decide +kernel
theorem dX7_undo_1 : decode cX7_undo 1 = .ok (.getfield 21, 3) := by decide +kernel
theorem dX7_undo_4 : decode cX7_undo 4 = .ok (.invokevirtual 139, 3) := by decide +kernel
theorem dX7_undo_7 : decode cX7_undo 7 = .ok (.ifCond .le 13, 3) := by decide +kernel
theorem dX7_undo_10 : decode cX7_undo 10 = .ok (.aload_n 0, 1) := by decide +kernel
theorem dX7_undo_11 : decode cX7_undo 11 = .ok (.getfield 21, 3) := by decide +kernel
theorem dX7_undo_14 : decode cX7_undo 14 = .ok (.invokevirtual 143, 3) := by decide +kernel
theorem dX7_undo_17 : decode cX7_undo 17 = .ok (.goto 5, 3) := by decide +kernel
theorem dX7_undo_20 : decode cX7_undo 20 = .ok (.bipush (-103), 2) := by decide +kernel
theorem dX7_undo_22 : decode cX7_undo 22 = .ok (.ireturn, 1) := by decide +kernel
theorem dX7_wish_0 : decode cX7_wish 0 = .ok (.aload_n 0, 1) := by decide +kernel
theorem dX7_wish_1 : decode cX7_wish 1 = .ok (.iload_n 1, 1) := by decide +kernel
theorem dX7_wish_2 : decode cX7_wish 2 = .ok (.iload_n 3, 1) := by decide +kernel
theorem dX7_wish_3 : decode cX7_wish 3 = .ok (.invokevirtual 110, 3) := by decide +kernel
theorem dX7_wish_6 : decode cX7_wish 6 = .ok (.ifCond .ne 6, 3) := by decide +kernel
theorem dX7_wish_9 : decode cX7_wish 9 = .ok (.bipush (-101), 2) := by decide +kernel
theorem dX7_wish_11 : decode cX7_wish 11 = .ok (.ireturn, 1) := by decide +kernel
theorem dX7_wish_12 : decode cX7_wish 12 = .ok (.iload_n 2, 1) := by decide +kernel
theorem dX7_wish_13 : decode cX7_wish 13 = .ok (.iload 4, 2) := by decide +kernel
theorem dX7_wish_15 : decode cX7_wish 15 = .ok (.invokestatic 113, 3) := by decide +kernel
theorem dX7_wish_18 : decode cX7_wish 18 = .ok (.ifCond .eq 14, 3) := by decide +kernel
theorem dX7_wish_21 : decode cX7_wish 21 = .ok (.iload 5, 2) := by decide +kernel
theorem dX7_wish_23 : decode cX7_wish 23 = .ok (.iconst 0, 1) := by decide +kernel
theorem dX7_wish_24 : decode cX7_wish 24 = .ok (.bipush 20, 2) := by decide +kernel
theorem dX7_wish_26 : decode cX7_wish 26 = .ok (.invokestatic 65, 3) := by decide +kernel
theorem dX7_wish_29 : decode cX7_wish 29 = .ok (.ifCond .ne 6, 3) := by decide +kernel
theorem dX7_wish_32 : decode cX7_wish 32 = .ok (.bipush (-102), 2) := by decide +kernel
theorem dX7_wish_34 : decode cX7_wish 34 = .ok (.ireturn, 1) := by decide +kernel
theorem dX7_wish_35 : decode cX7_wish 35 = .ok (.aload_n 0, 1) := by decide +kernel
theorem dX7_wish_36 : decode cX7_wish 36 = .ok (.getfield 25, 3) := by decide +kernel
theorem dX7_wish_39 : decode cX7_wish 39 = .ok (.invokevirtual 116, 3) := by decide +kernel
theorem dX7_wish_42 : decode cX7_wish 42 = .ok (.ifCond .eq 8, 3) := by decide +kernel
theorem dX7_wish_45 : decode cX7_wish 45 = .ok (.bipush (-104), 2) := by decide +kernel
theorem dX7_wish_47 : decode cX7_wish 47 = .ok (.goto 19, 3) := by decide +kernel
theorem dX7_wish_50 : decode cX7_wish 50 = .ok (.aload_n 0, 1) := by decide +kernel
theorem dX7_wish_51 : decode cX7_wish 51 = .ok (.getfield 25, 3) := by decide +kernel
theorem dX7_wish_54 : decode cX7_wish 54 = .ok (.iconst 0, 1) := by decide +kernel
theorem dX7_wish_55 : decode cX7_wish 55 = .ok (.iload_n 1, 1) := by decide +kernel
theorem dX7_wish_56 : decode cX7_wish 56 = .ok (.iload_n 2, 1) := by decide +kernel
theorem dX7_wish_57 : decode cX7_wish 57 = .ok (.iload_n 3, 1) := by decide +kernel
theorem dX7_wish_58 : decode cX7_wish 58 = .ok (.iload 4, 2) := by decide +kernel
theorem dX7_wish_60 : decode cX7_wish 60 = .ok (.iload 5, 2) := by decide +kernel
theorem dX7_wish_62 : decode cX7_wish 62 = .ok (.iconst 0, 1) := by decide +kernel
theorem dX7_wish_63 : decode cX7_wish 63 = .ok (.invokevirtual 120, 3) := by decide +kernel
theorem dX7_wish_66 : decode cX7_wish 66 = .ok (.ireturn, 1) := by decide +kernel
theorem dX7_within_0 : decode cX7_within 0 = .ok (.iload_n 0, 1) := by decide +kernel
theorem dX7_within_1 : decode cX7_within 1 = .ok (.iload_n 1, 1) := by decide +kernel
theorem dX7_within_2 : decode cX7_within 2 = .ok (.if_icmp .lt 12, 3) := by decide +kernel
theorem dX7_within_5 : decode cX7_within 5 = .ok (.iload_n 0, 1) := by decide +kernel
theorem dX7_within_6 : decode cX7_within 6 = .ok (.iload_n 2, 1) := by decide +kernel
theorem dX7_within_7 : decode cX7_within 7 = .ok (.if_icmp .gt 7, 3) := by decide +kernel
theorem dX7_within_10 : decode cX7_within 10 = .ok (.iconst 1, 1) := by decide +kernel
theorem dX7_within_11 : decode cX7_within 11 = .ok (.goto 4, 3) := by decide +kernel
theorem dX7_within_14 : decode cX7_within 14 = .ok (.iconst 0, 1) := by decide +kernel
theorem dX7_within_15 : decode cX7_within 15 = .ok (.ireturn, 1) := by decide +kernel
theorem dX8_about_0 : decode cX8_about 0 = .ok (.aload_n 0, 1) := by decide +kernel
theorem dX8_about_1 : decode cX8_about 1 = .ok (.iload_n 1, 1) := by decide +kernel
theorem dX8_about_2 : decode cX8_about 2 = .ok (.invokevirtual 103, 3) := by decide +kernel
theorem dX8_about_5 : decode cX8_about 5 = .ok (.ifCond .ne 8, 3) := by decide +kernel
theorem dX8_about_8 : decode cX8_about 8 = .ok (.bipush (-101), 2) := by decide +kernel
theorem dX8_about_10 : decode cX8_about 10 = .ok (.goto 23, 3) := by decide +kernel
theorem dX8_about_13 : decode cX8_about 13 = .ok (.iload_n 2, 1) := by decide +kernel
theorem dX8_about_14 : decode cX8_about 14 = .ok (.iconst 0, 1) := by decide +kernel
theorem dX8_about_15 : decode cX8_about 15 = .ok (.iconst 5, 1) := by decide +kernel
theorem dX8_about_16 : decode cX8_about 16 = .ok (.invokestatic 88, 3) := by decide +kernel
theorem dX8_about_19 : decode cX8_about 19 = .ok (.ifCond .eq 12, 3) := by decide +kernel
theorem dX8_about_22 : decode cX8_about 22 = .ok (.aload_n 0, 1) := by decide +kernel
theorem dX8_about_23 : decode cX8_about 23 = .ok (.iload_n 1, 1) := by decide +kernel
theorem dX8_about_24 : decode cX8_about 24 = .ok (.iload_n 2, 1) := by decide +kernel
theorem dX8_about_25 : decode cX8_about 25 = .ok (.invokevirtual 106, 3) := by decide +kernel
theorem dX8_about_28 : decode cX8_about 28 = .ok (.goto 5, 3) := by decide +kernel
theorem dX8_about_31 : decode cX8_about 31 = .ok (.bipush (-102), 2) := by decide +kernel
theorem dX8_about_33 : decode cX8_about 33 = .ok (.ireturn, 1) := by decide +kernel
theorem dX8_aboutOf_0 : decode cX8_aboutOf 0 = .ok (.iload_n 2, 1) := by decide +kernel
theorem dX8_aboutOf_1 : decode cX8_aboutOf 1 = .ok (.tableswitch 70 0 4 #[35, 42, 49, 56, 63], 35) := by decide +kernel
theorem dX8_aboutOf_36 : decode cX8_aboutOf 36 = .ok (.aload_n 0, 1) := by decide +kernel
theorem dX8_aboutOf_37 : decode cX8_aboutOf 37 = .ok (.getfield 7, 3) := by decide +kernel
theorem dX8_aboutOf_40 : decode cX8_aboutOf 40 = .ok (.iload_n 1, 1) := by decide +kernel
theorem dX8_aboutOf_41 : decode cX8_aboutOf 41 = .ok (.iaload, 1) := by decide +kernel
theorem dX8_aboutOf_42 : decode cX8_aboutOf 42 = .ok (.ireturn, 1) := by decide +kernel
theorem dX8_aboutOf_43 : decode cX8_aboutOf 43 = .ok (.aload_n 0, 1) := by decide +kernel
theorem dX8_aboutOf_44 : decode cX8_aboutOf 44 = .ok (.getfield 13, 3) := by decide +kernel
theorem dX8_aboutOf_47 : decode cX8_aboutOf 47 = .ok (.iload_n 1, 1) := by decide +kernel
theorem dX8_aboutOf_48 : decode cX8_aboutOf 48 = .ok (.iaload, 1) := by decide +kernel
theorem dX8_aboutOf_49 : decode cX8_aboutOf 49 = .ok (.ireturn, 1) := by decide +kernel
theorem dX8_aboutOf_50 : decode cX8_aboutOf 50 = .ok (.aload_n 0, 1) := by decide +kernel
theorem dX8_aboutOf_51 : decode cX8_aboutOf 51 = .ok (.getfield 16, 3) := by decide +kernel
theorem dX8_aboutOf_54 : decode cX8_aboutOf 54 = .ok (.iload_n 1, 1) := by decide +kernel
theorem dX8_aboutOf_55 : decode cX8_aboutOf 55 = .ok (.iaload, 1) := by decide +kernel
theorem dX8_aboutOf_56 : decode cX8_aboutOf 56 = .ok (.ireturn, 1) := by decide +kernel
theorem dX8_aboutOf_57 : decode cX8_aboutOf 57 = .ok (.aload_n 0, 1) := by decide +kernel
theorem dX8_aboutOf_58 : decode cX8_aboutOf 58 = .ok (.getfield 19, 3) := by decide +kernel
theorem dX8_aboutOf_61 : decode cX8_aboutOf 61 = .ok (.iload_n 1, 1) := by decide +kernel
theorem dX8_aboutOf_62 : decode cX8_aboutOf 62 = .ok (.iaload, 1) := by decide +kernel
theorem dX8_aboutOf_63 : decode cX8_aboutOf 63 = .ok (.ireturn, 1) := by decide +kernel
theorem dX8_aboutOf_64 : decode cX8_aboutOf 64 = .ok (.aload_n 0, 1) := by decide +kernel
theorem dX8_aboutOf_65 : decode cX8_aboutOf 65 = .ok (.getfield 22, 3) := by decide +kernel
theorem dX8_aboutOf_68 : decode cX8_aboutOf 68 = .ok (.iload_n 1, 1) := by decide +kernel
theorem dX8_aboutOf_69 : decode cX8_aboutOf 69 = .ok (.iaload, 1) := by decide +kernel
theorem dX8_aboutOf_70 : decode cX8_aboutOf 70 = .ok (.ireturn, 1) := by decide +kernel
theorem dX8_aboutOf_71 : decode cX8_aboutOf 71 = .ok (.aload_n 0, 1) := by decide +kernel
theorem dX8_aboutOf_72 : decode cX8_aboutOf 72 = .ok (.getfield 25, 3) := by decide +kernel
theorem dX8_aboutOf_75 : decode cX8_aboutOf 75 = .ok (.iload_n 1, 1) := by decide +kernel
theorem dX8_aboutOf_76 : decode cX8_aboutOf 76 = .ok (.iaload, 1) := by decide +kernel
theorem dX8_aboutOf_77 : decode cX8_aboutOf 77 = .ok (.ireturn, 1) := by decide +kernel
theorem dX8_as_0 : decode cX8_as 0 = .ok (.aload_n 0, 1) := by decide +kernel
theorem dX8_as_1 : decode cX8_as 1 = .ok (.iload_n 1, 1) := by decide +kernel
theorem dX8_as_2 : decode cX8_as 2 = .ok (.invokevirtual 103, 3) := by decide +kernel
theorem dX8_as_5 : decode cX8_as 5 = .ok (.ifCond .ne 6, 3) := by decide +kernel
theorem dX8_as_8 : decode cX8_as 8 = .ok (.bipush (-101), 2) := by decide +kernel
theorem dX8_as_10 : decode cX8_as 10 = .ok (.ireturn, 1) := by decide +kernel
theorem dX8_as_11 : decode cX8_as 11 = .ok (.iload_n 2, 1) := by decide +kernel
theorem dX8_as_12 : decode cX8_as 12 = .ok (.iconst 0, 1) := by decide +kernel
theorem dX8_as_13 : decode cX8_as 13 = .ok (.bipush 6, 2) := by decide +kernel
theorem dX8_as_15 : decode cX8_as 15 = .ok (.invokestatic 88, 3) := by decide +kernel
theorem dX8_as_18 : decode cX8_as 18 = .ok (.ifCond .ne 6, 3) := by decide +kernel
theorem dX8_as_21 : decode cX8_as 21 = .ok (.bipush (-102), 2) := by decide +kernel
theorem dX8_as_23 : decode cX8_as 23 = .ok (.ireturn, 1) := by decide +kernel
theorem dX8_as_24 : decode cX8_as 24 = .ok (.iload_n 2, 1) := by decide +kernel
theorem dX8_as_25 : decode cX8_as 25 = .ok (.ifCond .eq 29, 3) := by decide +kernel
theorem dX8_as_28 : decode cX8_as 28 = .ok (.aload_n 0, 1) := by decide +kernel
theorem dX8_as_29 : decode cX8_as 29 = .ok (.getfield 13, 3) := by decide +kernel
theorem dX8_as_32 : decode cX8_as 32 = .ok (.iload_n 1, 1) := by decide +kernel
theorem dX8_as_33 : decode cX8_as 33 = .ok (.iaload, 1) := by decide +kernel
theorem dX8_as_34 : decode cX8_as 34 = .ok (.iload_n 2, 1) := by decide +kernel
theorem dX8_as_35 : decode cX8_as 35 = .ok (.if_icmp .eq 19, 3) := by decide +kernel
theorem dX8_as_38 : decode cX8_as 38 = .ok (.iload_n 2, 1) := by decide +kernel
theorem dX8_as_39 : decode cX8_as 39 = .ok (.iconst 3, 1) := by decide +kernel
theorem dX8_as_40 : decode cX8_as 40 = .ok (.if_icmp .ne 18, 3) := by decide +kernel
theorem dX8_as_43 : decode cX8_as 43 = .ok (.aload_n 0, 1) := by decide +kernel
theorem dX8_as_44 : decode cX8_as 44 = .ok (.getfield 13, 3) := by decide +kernel
theorem dX8_as_47 : decode cX8_as 47 = .ok (.iload_n 1, 1) := by decide +kernel
theorem dX8_as_48 : decode cX8_as 48 = .ok (.iaload, 1) := by decide +kernel
theorem dX8_as_49 : decode cX8_as 49 = .ok (.bipush 6, 2) := by decide +kernel
theorem dX8_as_51 : decode cX8_as 51 = .ok (.if_icmp .ne 7, 3) := by decide +kernel
theorem dX8_as_54 : decode cX8_as 54 = .ok (.iload_n 1, 1) := by decide +kernel
theorem dX8_as_55 : decode cX8_as 55 = .ok (.goto 4, 3) := by decide +kernel
theorem dX8_as_58 : decode cX8_as 58 = .ok (.iconst (-1), 1) := by decide +kernel
theorem dX8_as_59 : decode cX8_as 59 = .ok (.ireturn, 1) := by decide +kernel
theorem dX8_believes_0 : decode cX8_believes 0 = .ok (.iload_n 1, 1) := by decide +kernel
theorem dX8_believes_1 : decode cX8_believes 1 = .ok (.invokestatic 160, 3) := by decide +kernel
theorem dX8_believes_4 : decode cX8_believes 4 = .ok (.ifCond .eq 20, 3) := by decide +kernel
theorem dX8_believes_7 : decode cX8_believes 7 = .ok (.aload_n 0, 1) := by decide +kernel
theorem dX8_believes_8 : decode cX8_believes 8 = .ok (.iload_n 2, 1) := by decide +kernel
theorem dX8_believes_9 : decode cX8_believes 9 = .ok (.invokevirtual 135, 3) := by decide +kernel
theorem dX8_believes_12 : decode cX8_believes 12 = .ok (.ifCond .eq 12, 3) := by decide +kernel
theorem dX8_believes_15 : decode cX8_believes 15 = .ok (.aload_n 0, 1) := by decide +kernel
theorem dX8_believes_16 : decode cX8_believes 16 = .ok (.iload_n 1, 1) := by decide +kernel
theorem dX8_believes_17 : decode cX8_believes 17 = .ok (.iload_n 2, 1) := by decide +kernel
theorem dX8_believes_18 : decode cX8_believes 18 = .ok (.invokevirtual 185, 3) := by decide +kernel
theorem dX8_believes_21 : decode cX8_believes 21 = .ok (.goto 5, 3) := by decide +kernel
theorem dX8_believes_24 : decode cX8_believes 24 = .ok (.bipush (-101), 2) := by decide +kernel
theorem dX8_believes_26 : decode cX8_believes 26 = .ok (.ireturn, 1) := by decide +kernel
theorem dX8_believesOf_0 : decode cX8_believesOf 0 = .ok (.aload_n 0, 1) := by decide +kernel
theorem dX8_believesOf_1 : decode cX8_believesOf 1 = .ok (.getfield 53, 3) := by decide +kernel
theorem dX8_believesOf_4 : decode cX8_believesOf 4 = .ok (.iconst 0, 1) := by decide +kernel
theorem dX8_believesOf_5 : decode cX8_believesOf 5 = .ok (.aload_n 0, 1) := by decide +kernel
theorem dX8_believesOf_6 : decode cX8_believesOf 6 = .ok (.getfield 7, 3) := by decide +kernel
theorem dX8_believesOf_9 : decode cX8_believesOf 9 = .ok (.aload_n 0, 1) := by decide +kernel
theorem dX8_believesOf_10 : decode cX8_believesOf 10 = .ok (.getfield 31, 3) := by decide +kernel
theorem dX8_believesOf_13 : decode cX8_believesOf 13 = .ok (.bipush 7, 2) := by decide +kernel
theorem dX8_believesOf_15 : decode cX8_believesOf 15 = .ok (.iload_n 2, 1) := by decide +kernel
theorem dX8_believesOf_16 : decode cX8_believesOf 16 = .ok (.imul, 1) := by decide +kernel
theorem dX8_believesOf_17 : decode cX8_believesOf 17 = .ok (.iconst 1, 1) := by decide +kernel
theorem dX8_believesOf_18 : decode cX8_believesOf 18 = .ok (.iadd, 1) := by decide +kernel
theorem dX8_believesOf_19 : decode cX8_believesOf 19 = .ok (.iaload, 1) := by decide +kernel
theorem dX8_believesOf_20 : decode cX8_believesOf 20 = .ok (.iaload, 1) := by decide +kernel
theorem dX8_believesOf_21 : decode cX8_believesOf 21 = .ok (.iastore, 1) := by decide +kernel
theorem dX8_believesOf_22 : decode cX8_believesOf 22 = .ok (.aload_n 0, 1) := by decide +kernel
theorem dX8_believesOf_23 : decode cX8_believesOf 23 = .ok (.getfield 53, 3) := by decide +kernel
theorem dX8_believesOf_26 : decode cX8_believesOf 26 = .ok (.iconst 1, 1) := by decide +kernel
theorem dX8_believesOf_27 : decode cX8_believesOf 27 = .ok (.aload_n 0, 1) := by decide +kernel
theorem dX8_believesOf_28 : decode cX8_believesOf 28 = .ok (.getfield 31, 3) := by decide +kernel
theorem dX8_believesOf_31 : decode cX8_believesOf 31 = .ok (.bipush 7, 2) := by decide +kernel
theorem dX8_believesOf_33 : decode cX8_believesOf 33 = .ok (.iload_n 2, 1) := by decide +kernel
theorem dX8_believesOf_34 : decode cX8_believesOf 34 = .ok (.imul, 1) := by decide +kernel
theorem dX8_believesOf_35 : decode cX8_believesOf 35 = .ok (.iaload, 1) := by decide +kernel
theorem dX8_believesOf_36 : decode cX8_believesOf 36 = .ok (.iastore, 1) := by decide +kernel
theorem dX8_believesOf_37 : decode cX8_believesOf 37 = .ok (.aload_n 0, 1) := by decide +kernel
theorem dX8_believesOf_38 : decode cX8_believesOf 38 = .ok (.getfield 53, 3) := by decide +kernel
theorem dX8_believesOf_41 : decode cX8_believesOf 41 = .ok (.iconst 2, 1) := by decide +kernel
theorem dX8_believesOf_42 : decode cX8_believesOf 42 = .ok (.aload_n 0, 1) := by decide +kernel
theorem dX8_believesOf_43 : decode cX8_believesOf 43 = .ok (.getfield 31, 3) := by decide +kernel
theorem dX8_believesOf_46 : decode cX8_believesOf 46 = .ok (.bipush 7, 2) := by decide +kernel
theorem dX8_believesOf_48 : decode cX8_believesOf 48 = .ok (.iload_n 2, 1) := by decide +kernel
theorem dX8_believesOf_49 : decode cX8_believesOf 49 = .ok (.imul, 1) := by decide +kernel
theorem dX8_believesOf_50 : decode cX8_believesOf 50 = .ok (.iconst 2, 1) := by decide +kernel
theorem dX8_believesOf_51 : decode cX8_believesOf 51 = .ok (.iadd, 1) := by decide +kernel
theorem dX8_believesOf_52 : decode cX8_believesOf 52 = .ok (.iaload, 1) := by decide +kernel
theorem dX8_believesOf_53 : decode cX8_believesOf 53 = .ok (.iastore, 1) := by decide +kernel
theorem dX8_believesOf_54 : decode cX8_believesOf 54 = .ok (.aload_n 0, 1) := by decide +kernel
theorem dX8_believesOf_55 : decode cX8_believesOf 55 = .ok (.getfield 53, 3) := by decide +kernel
theorem dX8_believesOf_58 : decode cX8_believesOf 58 = .ok (.iconst 3, 1) := by decide +kernel
theorem dX8_believesOf_59 : decode cX8_believesOf 59 = .ok (.iload_n 2, 1) := by decide +kernel
theorem dX8_believesOf_60 : decode cX8_believesOf 60 = .ok (.iastore, 1) := by decide +kernel
theorem dX8_believesOf_61 : decode cX8_believesOf 61 = .ok (.aload_n 0, 1) := by decide +kernel
theorem dX8_believesOf_62 : decode cX8_believesOf 62 = .ok (.iload_n 1, 1) := by decide +kernel
theorem dX8_believesOf_63 : decode cX8_believesOf 63 = .ok (.bipush 66, 2) := by decide +kernel
theorem dX8_believesOf_65 : decode cX8_believesOf 65 = .ok (.iconst 1, 1) := by decide +kernel
theorem dX8_believesOf_66 : decode cX8_believesOf 66 = .ok (.invokevirtual 179, 3) := by decide +kernel
theorem dX8_believesOf_69 : decode cX8_believesOf 69 = .ok (.ireturn, 1) := by decide +kernel
theorem dX8_best_0 : decode cX8_best 0 = .ok (.iload_n 1, 1) := by decide +kernel
theorem dX8_best_1 : decode cX8_best 1 = .ok (.invokestatic 160, 3) := by decide +kernel
theorem dX8_best_4 : decode cX8_best 4 = .ok (.ifCond .ne 6, 3) := by decide +kernel
theorem dX8_best_7 : decode cX8_best 7 = .ok (.bipush (-101), 2) := by decide +kernel
theorem dX8_best_9 : decode cX8_best 9 = .ok (.ireturn, 1) := by decide +kernel
theorem dX8_best_10 : decode cX8_best 10 = .ok (.iload_n 2, 1) := by decide +kernel
theorem dX8_best_11 : decode cX8_best 11 = .ok (.invokestatic 92, 3) := by decide +kernel
theorem dX8_best_14 : decode cX8_best 14 = .ok (.ifCond .ne 6, 3) := by decide +kernel
theorem dX8_best_17 : decode cX8_best 17 = .ok (.bipush (-102), 2) := by decide +kernel
theorem dX8_best_19 : decode cX8_best 19 = .ok (.ireturn, 1) := by decide +kernel
theorem dX8_best_20 : decode cX8_best 20 = .ok (.iconst (-1), 1) := by decide +kernel
theorem dX8_best_21 : decode cX8_best 21 = .ok (.istore_n 3, 1) := by decide +kernel
theorem dX8_best_22 : decode cX8_best 22 = .ok (.iconst (-1), 1) := by decide +kernel
theorem dX8_best_23 : decode cX8_best 23 = .ok (.istore 4, 2) := by decide +kernel
theorem dX8_best_25 : decode cX8_best 25 = .ok (.iconst 0, 1) := by decide +kernel
theorem dX8_best_26 : decode cX8_best 26 = .ok (.istore 5, 2) := by decide +kernel
theorem dX8_best_28 : decode cX8_best 28 = .ok (.iload 5, 2) := by decide +kernel
theorem dX8_best_30 : decode cX8_best 30 = .ok (.aload_n 0, 1) := by decide +kernel
theorem dX8_best_31 : decode cX8_best 31 = .ok (.getfield 237, 3) := by decide +kernel
theorem dX8_best_34 : decode cX8_best 34 = .ok (.if_icmp .ge 49, 3) := by decide +kernel
theorem dX8_best_37 : decode cX8_best 37 = .ok (.aload_n 0, 1) := by decide +kernel
theorem dX8_best_38 : decode cX8_best 38 = .ok (.iload_n 1, 1) := by decide +kernel
theorem dX8_best_39 : decode cX8_best 39 = .ok (.iload_n 2, 1) := by decide +kernel
theorem dX8_best_40 : decode cX8_best 40 = .ok (.iload 5, 2) := by decide +kernel
theorem dX8_best_42 : decode cX8_best 42 = .ok (.invokevirtual 240, 3) := by decide +kernel
theorem dX8_best_45 : decode cX8_best 45 = .ok (.istore 6, 2) := by decide +kernel
theorem dX8_best_47 : decode cX8_best 47 = .ok (.iload 6, 2) := by decide +kernel
theorem dX8_best_49 : decode cX8_best 49 = .ok (.iload 4, 2) := by decide +kernel
theorem dX8_best_51 : decode cX8_best 51 = .ok (.if_icmp .le 8, 3) := by decide +kernel
theorem dX8_best_54 : decode cX8_best 54 = .ok (.iload 5, 2) := by decide +kernel
theorem dX8_best_56 : decode cX8_best 56 = .ok (.goto 4, 3) := by decide +kernel
theorem dX8_best_59 : decode cX8_best 59 = .ok (.iload_n 3, 1) := by decide +kernel
theorem dX8_best_60 : decode cX8_best 60 = .ok (.istore_n 3, 1) := by decide +kernel
theorem dX8_best_61 : decode cX8_best 61 = .ok (.iload 6, 2) := by decide +kernel
theorem dX8_best_63 : decode cX8_best 63 = .ok (.iload 4, 2) := by decide +kernel
theorem dX8_best_65 : decode cX8_best 65 = .ok (.if_icmp .le 8, 3) := by decide +kernel
theorem dX8_best_68 : decode cX8_best 68 = .ok (.iload 6, 2) := by decide +kernel
theorem dX8_best_70 : decode cX8_best 70 = .ok (.goto 5, 3) := by decide +kernel
theorem dX8_best_73 : decode cX8_best 73 = .ok (.iload 4, 2) := by decide +kernel
theorem dX8_best_75 : decode cX8_best 75 = .ok (.istore 4, 2) := by decide +kernel
theorem dX8_best_77 : decode cX8_best 77 = .ok (.iinc 5 1, 3) := by decide +kernel
theorem dX8_best_80 : decode cX8_best 80 = .ok (.goto (-52), 3) := by decide +kernel
theorem dX8_best_83 : decode cX8_best 83 = .ok (.iload_n 3, 1) := by decide +kernel
theorem dX8_best_84 : decode cX8_best 84 = .ok (.ireturn, 1) := by decide +kernel
theorem dX8_bind_0 : decode cX8_bind 0 = .ok (.aload_n 0, 1) := by decide +kernel
theorem dX8_bind_1 : decode cX8_bind 1 = .ok (.getfield 66, 3) := by decide +kernel
theorem dX8_bind_4 : decode cX8_bind 4 = .ok (.bipush 11, 2) := by decide +kernel
theorem dX8_bind_6 : decode cX8_bind 6 = .ok (.iload_n 1, 1) := by decide +kernel
theorem dX8_bind_7 : decode cX8_bind 7 = .ok (.imul, 1) := by decide +kernel
theorem dX8_bind_8 : decode cX8_bind 8 = .ok (.iload_n 2, 1) := by decide +kernel
theorem dX8_bind_9 : decode cX8_bind 9 = .ok (.iadd, 1) := by decide +kernel
theorem dX8_bind_10 : decode cX8_bind 10 = .ok (.iload 4, 2) := by decide +kernel
theorem dX8_bind_12 : decode cX8_bind 12 = .ok (.aload_n 0, 1) := by decide +kernel
theorem dX8_bind_13 : decode cX8_bind 13 = .ok (.getfield 66, 3) := by decide +kernel
theorem dX8_bind_16 : decode cX8_bind 16 = .ok (.bipush 11, 2) := by decide +kernel
theorem dX8_bind_18 : decode cX8_bind 18 = .ok (.iload_n 1, 1) := by decide +kernel
theorem dX8_bind_19 : decode cX8_bind 19 = .ok (.imul, 1) := by decide +kernel
theorem dX8_bind_20 : decode cX8_bind 20 = .ok (.iload_n 2, 1) := by decide +kernel
theorem dX8_bind_21 : decode cX8_bind 21 = .ok (.iadd, 1) := by decide +kernel
theorem dX8_bind_22 : decode cX8_bind 22 = .ok (.iaload, 1) := by decide +kernel
theorem dX8_bind_23 : decode cX8_bind 23 = .ok (.if_icmp .ge 8, 3) := by decide +kernel
theorem dX8_bind_26 : decode cX8_bind 26 = .ok (.iload 4, 2) := by decide +kernel
theorem dX8_bind_28 : decode cX8_bind 28 = .ok (.goto 14, 3) := by decide +kernel
theorem dX8_bind_31 : decode cX8_bind 31 = .ok (.aload_n 0, 1) := by decide +kernel
theorem dX8_bind_32 : decode cX8_bind 32 = .ok (.getfield 66, 3) := by decide +kernel
theorem dX8_bind_35 : decode cX8_bind 35 = .ok (.bipush 11, 2) := by decide +kernel
theorem dX8_bind_37 : decode cX8_bind 37 = .ok (.iload_n 1, 1) := by decide +kernel
theorem dX8_bind_38 : decode cX8_bind 38 = .ok (.imul, 1) := by decide +kernel
theorem dX8_bind_39 : decode cX8_bind 39 = .ok (.iload_n 2, 1) := by decide +kernel
theorem dX8_bind_40 : decode cX8_bind 40 = .ok (.iadd, 1) := by decide +kernel
theorem dX8_bind_41 : decode cX8_bind 41 = .ok (.iaload, 1) := by decide +kernel
theorem dX8_bind_42 : decode cX8_bind 42 = .ok (.iastore, 1) := by decide +kernel
theorem dX8_bind_43 : decode cX8_bind 43 = .ok (.aload_n 0, 1) := by decide +kernel
theorem dX8_bind_44 : decode cX8_bind 44 = .ok (.getfield 66, 3) := by decide +kernel
theorem dX8_bind_47 : decode cX8_bind 47 = .ok (.bipush 11, 2) := by decide +kernel
theorem dX8_bind_49 : decode cX8_bind 49 = .ok (.iload_n 2, 1) := by decide +kernel
theorem dX8_bind_50 : decode cX8_bind 50 = .ok (.imul, 1) := by decide +kernel
theorem dX8_bind_51 : decode cX8_bind 51 = .ok (.iload_n 1, 1) := by decide +kernel
theorem dX8_bind_52 : decode cX8_bind 52 = .ok (.iadd, 1) := by decide +kernel
theorem dX8_bind_53 : decode cX8_bind 53 = .ok (.iload_n 3, 1) := by decide +kernel
theorem dX8_bind_54 : decode cX8_bind 54 = .ok (.ineg, 1) := by decide +kernel
theorem dX8_bind_55 : decode cX8_bind 55 = .ok (.aload_n 0, 1) := by decide +kernel
theorem dX8_bind_56 : decode cX8_bind 56 = .ok (.getfield 66, 3) := by decide +kernel
theorem dX8_bind_59 : decode cX8_bind 59 = .ok (.bipush 11, 2) := by decide +kernel
theorem dX8_bind_61 : decode cX8_bind 61 = .ok (.iload_n 2, 1) := by decide +kernel
theorem dX8_bind_62 : decode cX8_bind 62 = .ok (.imul, 1) := by decide +kernel
theorem dX8_bind_63 : decode cX8_bind 63 = .ok (.iload_n 1, 1) := by decide +kernel
theorem dX8_bind_64 : decode cX8_bind 64 = .ok (.iadd, 1) := by decide +kernel
theorem dX8_bind_65 : decode cX8_bind 65 = .ok (.iaload, 1) := by decide +kernel
theorem dX8_bind_66 : decode cX8_bind 66 = .ok (.if_icmp .ge 8, 3) := by decide +kernel
theorem dX8_bind_69 : decode cX8_bind 69 = .ok (.iload_n 3, 1) := by decide +kernel
theorem dX8_bind_70 : decode cX8_bind 70 = .ok (.ineg, 1) := by decide +kernel
theorem dX8_bind_71 : decode cX8_bind 71 = .ok (.goto 14, 3) := by decide +kernel
theorem dX8_bind_74 : decode cX8_bind 74 = .ok (.aload_n 0, 1) := by decide +kernel
theorem dX8_bind_75 : decode cX8_bind 75 = .ok (.getfield 66, 3) := by decide +kernel
theorem dX8_bind_78 : decode cX8_bind 78 = .ok (.bipush 11, 2) := by decide +kernel
theorem dX8_bind_80 : decode cX8_bind 80 = .ok (.iload_n 2, 1) := by decide +kernel
theorem dX8_bind_81 : decode cX8_bind 81 = .ok (.imul, 1) := by decide +kernel
theorem dX8_bind_82 : decode cX8_bind 82 = .ok (.iload_n 1, 1) := by decide +kernel
theorem dX8_bind_83 : decode cX8_bind 83 = .ok (.iadd, 1) := by decide +kernel
theorem dX8_bind_84 : decode cX8_bind 84 = .ok (.iaload, 1) := by decide +kernel
theorem dX8_bind_85 : decode cX8_bind 85 = .ok (.iastore, 1) := by decide +kernel
theorem dX8_bind_86 : decode cX8_bind 86 = .ok (.return_, 1) := by decide +kernel
theorem dX8_blank_0 : decode cX8_blank 0 = .ok (.aload_n 0, 1) := by decide +kernel
theorem dX8_blank_1 : decode cX8_blank 1 = .ok (.getfield 140, 3) := by decide +kernel
theorem dX8_blank_4 : decode cX8_blank 4 = .ok (.istore_n 1, 1) := by decide +kernel
theorem dX8_blank_5 : decode cX8_blank 5 = .ok (.aload_n 0, 1) := by decide +kernel
theorem dX8_blank_6 : decode cX8_blank 6 = .ok (.iconst 0, 1) := by decide +kernel
theorem dX8_blank_7 : decode cX8_blank 7 = .ok (.putfield 140, 3) := by decide +kernel
theorem dX8_blank_10 : decode cX8_blank 10 = .ok (.iload_n 1, 1) := by decide +kernel
theorem dX8_blank_11 : decode cX8_blank 11 = .ok (.ireturn, 1) := by decide +kernel
theorem dX8_can_0 : decode cX8_can 0 = .ok (.iload_n 1, 1) := by decide +kernel
theorem dX8_can_1 : decode cX8_can 1 = .ok (.invokestatic 160, 3) := by decide +kernel
theorem dX8_can_4 : decode cX8_can 4 = .ok (.ifCond .ne 6, 3) := by decide +kernel
theorem dX8_can_7 : decode cX8_can 7 = .ok (.bipush (-101), 2) := by decide +kernel
theorem dX8_can_9 : decode cX8_can 9 = .ok (.ireturn, 1) := by decide +kernel
theorem dX8_can_10 : decode cX8_can 10 = .ok (.iload_n 2, 1) := by decide +kernel
theorem dX8_can_11 : decode cX8_can 11 = .ok (.invokestatic 92, 3) := by decide +kernel
theorem dX8_can_14 : decode cX8_can 14 = .ok (.ifCond .ne 6, 3) := by decide +kernel
theorem dX8_can_17 : decode cX8_can 17 = .ok (.bipush (-102), 2) := by decide +kernel
theorem dX8_can_19 : decode cX8_can 19 = .ok (.ireturn, 1) := by decide +kernel
theorem dX8_can_20 : decode cX8_can 20 = .ok (.aload_n 0, 1) := by decide +kernel
theorem dX8_can_21 : decode cX8_can 21 = .ok (.iload_n 1, 1) := by decide +kernel
theorem dX8_can_22 : decode cX8_can 22 = .ok (.iload_n 2, 1) := by decide +kernel
theorem dX8_can_23 : decode cX8_can 23 = .ok (.aload_n 0, 1) := by decide +kernel
theorem dX8_can_24 : decode cX8_can 24 = .ok (.iload_n 1, 1) := by decide +kernel
theorem dX8_can_25 : decode cX8_can 25 = .ok (.iload_n 2, 1) := by decide +kernel
theorem dX8_can_26 : decode cX8_can 26 = .ok (.invokevirtual 219, 3) := by decide +kernel
theorem dX8_can_29 : decode cX8_can 29 = .ok (.iconst (-1), 1) := by decide +kernel
theorem dX8_can_30 : decode cX8_can 30 = .ok (.invokevirtual 222, 3) := by decide +kernel
theorem dX8_can_33 : decode cX8_can 33 = .ok (.aload_n 0, 1) := by decide +kernel
theorem dX8_can_34 : decode cX8_can 34 = .ok (.getfield 201, 3) := by decide +kernel
theorem dX8_can_37 : decode cX8_can 37 = .ok (.ifCond .eq 7, 3) := by decide +kernel
theorem dX8_can_40 : decode cX8_can 40 = .ok (.iconst 1, 1) := by decide +kernel
theorem dX8_can_41 : decode cX8_can 41 = .ok (.goto 4, 3) := by decide +kernel
theorem dX8_can_44 : decode cX8_can 44 = .ok (.iconst 0, 1) := by decide +kernel
theorem dX8_can_45 : decode cX8_can 45 = .ok (.ireturn, 1) := by decide +kernel
theorem dX8_closeWays_0 : decode cX8_closeWays 0 = .ok (.iconst 0, 1) := by decide +kernel
theorem dX8_closeWays_1 : decode cX8_closeWays 1 = .ok (.istore_n 1, 1) := by decide +kernel
theorem dX8_closeWays_2 : decode cX8_closeWays 2 = .ok (.iload_n 1, 1) := by decide +kernel
theorem dX8_closeWays_3 : decode cX8_closeWays 3 = .ok (.bipush 11, 2) := by decide +kernel
theorem dX8_closeWays_5 : decode cX8_closeWays 5 = .ok (.if_icmp .ge 105, 3) := by decide +kernel
theorem dX8_closeWays_8 : decode cX8_closeWays 8 = .ok (.iconst 0, 1) := by decide +kernel
theorem dX8_closeWays_9 : decode cX8_closeWays 9 = .ok (.istore_n 2, 1) := by decide +kernel
theorem dX8_closeWays_10 : decode cX8_closeWays 10 = .ok (.iload_n 2, 1) := by decide +kernel
theorem dX8_closeWays_11 : decode cX8_closeWays 11 = .ok (.bipush 11, 2) := by decide +kernel
theorem dX8_closeWays_13 : decode cX8_closeWays 13 = .ok (.if_icmp .ge 91, 3) := by decide +kernel
theorem dX8_closeWays_16 : decode cX8_closeWays 16 = .ok (.iconst 0, 1) := by decide +kernel
theorem dX8_closeWays_17 : decode cX8_closeWays 17 = .ok (.istore_n 3, 1) := by decide +kernel
theorem dX8_closeWays_18 : decode cX8_closeWays 18 = .ok (.iload_n 3, 1) := by decide +kernel
theorem dX8_closeWays_19 : decode cX8_closeWays 19 = .ok (.bipush 11, 2) := by decide +kernel
theorem dX8_closeWays_21 : decode cX8_closeWays 21 = .ok (.if_icmp .ge 77, 3) := by decide +kernel
theorem dX8_closeWays_24 : decode cX8_closeWays 24 = .ok (.aload_n 0, 1) := by decide +kernel
theorem dX8_closeWays_25 : decode cX8_closeWays 25 = .ok (.getfield 66, 3) := by decide +kernel
theorem dX8_closeWays_28 : decode cX8_closeWays 28 = .ok (.bipush 11, 2) := by decide +kernel
theorem dX8_closeWays_30 : decode cX8_closeWays 30 = .ok (.iload_n 2, 1) := by decide +kernel
theorem dX8_closeWays_31 : decode cX8_closeWays 31 = .ok (.imul, 1) := by decide +kernel
theorem dX8_closeWays_32 : decode cX8_closeWays 32 = .ok (.iload_n 1, 1) := by decide +kernel
theorem dX8_closeWays_33 : decode cX8_closeWays 33 = .ok (.iadd, 1) := by decide +kernel
theorem dX8_closeWays_34 : decode cX8_closeWays 34 = .ok (.iaload, 1) := by decide +kernel
theorem dX8_closeWays_35 : decode cX8_closeWays 35 = .ok (.aload_n 0, 1) := by decide +kernel
theorem dX8_closeWays_36 : decode cX8_closeWays 36 = .ok (.getfield 66, 3) := by decide +kernel
theorem dX8_closeWays_39 : decode cX8_closeWays 39 = .ok (.bipush 11, 2) := by decide +kernel
theorem dX8_closeWays_41 : decode cX8_closeWays 41 = .ok (.iload_n 1, 1) := by decide +kernel
theorem dX8_closeWays_42 : decode cX8_closeWays 42 = .ok (.imul, 1) := by decide +kernel
theorem dX8_closeWays_43 : decode cX8_closeWays 43 = .ok (.iload_n 3, 1) := by decide +kernel
theorem dX8_closeWays_44 : decode cX8_closeWays 44 = .ok (.iadd, 1) := by decide +kernel
theorem dX8_closeWays_45 : decode cX8_closeWays 45 = .ok (.iaload, 1) := by decide +kernel
theorem dX8_closeWays_46 : decode cX8_closeWays 46 = .ok (.iadd, 1) := by decide +kernel
theorem dX8_closeWays_47 : decode cX8_closeWays 47 = .ok (.istore 4, 2) := by decide +kernel
theorem dX8_closeWays_49 : decode cX8_closeWays 49 = .ok (.aload_n 0, 1) := by decide +kernel
theorem dX8_closeWays_50 : decode cX8_closeWays 50 = .ok (.getfield 66, 3) := by decide +kernel
theorem dX8_closeWays_53 : decode cX8_closeWays 53 = .ok (.bipush 11, 2) := by decide +kernel
theorem dX8_closeWays_55 : decode cX8_closeWays 55 = .ok (.iload_n 2, 1) := by decide +kernel
theorem dX8_closeWays_56 : decode cX8_closeWays 56 = .ok (.imul, 1) := by decide +kernel
theorem dX8_closeWays_57 : decode cX8_closeWays 57 = .ok (.iload_n 3, 1) := by decide +kernel
theorem dX8_closeWays_58 : decode cX8_closeWays 58 = .ok (.iadd, 1) := by decide +kernel
theorem dX8_closeWays_59 : decode cX8_closeWays 59 = .ok (.iload 4, 2) := by decide +kernel
theorem dX8_closeWays_61 : decode cX8_closeWays 61 = .ok (.aload_n 0, 1) := by decide +kernel
theorem dX8_closeWays_62 : decode cX8_closeWays 62 = .ok (.getfield 66, 3) := by decide +kernel
theorem dX8_closeWays_65 : decode cX8_closeWays 65 = .ok (.bipush 11, 2) := by decide +kernel
theorem dX8_closeWays_67 : decode cX8_closeWays 67 = .ok (.iload_n 2, 1) := by decide +kernel
theorem dX8_closeWays_68 : decode cX8_closeWays 68 = .ok (.imul, 1) := by decide +kernel
theorem dX8_closeWays_69 : decode cX8_closeWays 69 = .ok (.iload_n 3, 1) := by decide +kernel
theorem dX8_closeWays_70 : decode cX8_closeWays 70 = .ok (.iadd, 1) := by decide +kernel
theorem dX8_closeWays_71 : decode cX8_closeWays 71 = .ok (.iaload, 1) := by decide +kernel
theorem dX8_closeWays_72 : decode cX8_closeWays 72 = .ok (.if_icmp .ge 8, 3) := by decide +kernel
theorem dX8_closeWays_75 : decode cX8_closeWays 75 = .ok (.iload 4, 2) := by decide +kernel
theorem dX8_closeWays_77 : decode cX8_closeWays 77 = .ok (.goto 14, 3) := by decide +kernel
theorem dX8_closeWays_80 : decode cX8_closeWays 80 = .ok (.aload_n 0, 1) := by decide +kernel
theorem dX8_closeWays_81 : decode cX8_closeWays 81 = .ok (.getfield 66, 3) := by decide +kernel
theorem dX8_closeWays_84 : decode cX8_closeWays 84 = .ok (.bipush 11, 2) := by decide +kernel
theorem dX8_closeWays_86 : decode cX8_closeWays 86 = .ok (.iload_n 2, 1) := by decide +kernel
theorem dX8_closeWays_87 : decode cX8_closeWays 87 = .ok (.imul, 1) := by decide +kernel
theorem dX8_closeWays_88 : decode cX8_closeWays 88 = .ok (.iload_n 3, 1) := by decide +kernel
theorem dX8_closeWays_89 : decode cX8_closeWays 89 = .ok (.iadd, 1) := by decide +kernel
theorem dX8_closeWays_90 : decode cX8_closeWays 90 = .ok (.iaload, 1) := by decide +kernel
theorem dX8_closeWays_91 : decode cX8_closeWays 91 = .ok (.iastore, 1) := by decide +kernel
theorem dX8_closeWays_92 : decode cX8_closeWays 92 = .ok (.iinc 3 1, 3) := by decide +kernel
theorem dX8_closeWays_95 : decode cX8_closeWays 95 = .ok (.goto (-77), 3) := by decide +kernel
theorem dX8_closeWays_98 : decode cX8_closeWays 98 = .ok (.iinc 2 1, 3) := by decide +kernel
theorem dX8_closeWays_101 : decode cX8_closeWays 101 = .ok (.goto (-91), 3) := by decide +kernel
theorem dX8_closeWays_104 : decode cX8_closeWays 104 = .ok (.iinc 1 1, 3) := by decide +kernel
theorem dX8_closeWays_107 : decode cX8_closeWays 107 = .ok (.goto (-105), 3) := by decide +kernel
theorem dX8_closeWays_110 : decode cX8_closeWays 110 = .ok (.iconst 0, 1) := by decide +kernel
theorem dX8_closeWays_111 : decode cX8_closeWays 111 = .ok (.istore_n 1, 1) := by decide +kernel
theorem dX8_closeWays_112 : decode cX8_closeWays 112 = .ok (.iload_n 1, 1) := by decide +kernel
theorem dX8_closeWays_113 : decode cX8_closeWays 113 = .ok (.bipush 11, 2) := by decide +kernel
theorem dX8_closeWays_115 : decode cX8_closeWays 115 = .ok (.if_icmp .ge 23, 3) := by decide +kernel
theorem dX8_closeWays_118 : decode cX8_closeWays 118 = .ok (.aload_n 0, 1) := by decide +kernel
theorem dX8_closeWays_119 : decode cX8_closeWays 119 = .ok (.getfield 66, 3) := by decide +kernel
theorem dX8_closeWays_122 : decode cX8_closeWays 122 = .ok (.bipush 12, 2) := by decide +kernel
theorem dX8_closeWays_124 : decode cX8_closeWays 124 = .ok (.iload_n 1, 1) := by decide +kernel
theorem dX8_closeWays_125 : decode cX8_closeWays 125 = .ok (.imul, 1) := by decide +kernel
theorem dX8_closeWays_126 : decode cX8_closeWays 126 = .ok (.iaload, 1) := by decide +kernel
theorem dX8_closeWays_127 : decode cX8_closeWays 127 = .ok (.ifCond .ge 5, 3) := by decide +kernel
theorem dX8_closeWays_130 : decode cX8_closeWays 130 = .ok (.iconst 0, 1) := by decide +kernel
theorem dX8_closeWays_131 : decode cX8_closeWays 131 = .ok (.ireturn, 1) := by decide +kernel
theorem dX8_closeWays_132 : decode cX8_closeWays 132 = .ok (.iinc 1 1, 3) := by decide +kernel
theorem dX8_closeWays_135 : decode cX8_closeWays 135 = .ok (.goto (-23), 3) := by decide +kernel
theorem dX8_closeWays_138 : decode cX8_closeWays 138 = .ok (.iconst 1, 1) := by decide +kernel
theorem dX8_closeWays_139 : decode cX8_closeWays 139 = .ok (.ireturn, 1) := by decide +kernel
theorem dX8_closes_0 : decode cX8_closes 0 = .ok (.iload_n 1, 1) := by decide +kernel
theorem dX8_closes_1 : decode cX8_closes 1 = .ok (.invokestatic 160, 3) := by decide +kernel
theorem dX8_closes_4 : decode cX8_closes 4 = .ok (.ifCond .ne 6, 3) := by decide +kernel
theorem dX8_closes_7 : decode cX8_closes 7 = .ok (.bipush (-101), 2) := by decide +kernel
theorem dX8_closes_9 : decode cX8_closes 9 = .ok (.ireturn, 1) := by decide +kernel
theorem dX8_closes_10 : decode cX8_closes 10 = .ok (.iload_n 2, 1) := by decide +kernel
theorem dX8_closes_11 : decode cX8_closes 11 = .ok (.invokestatic 92, 3) := by decide +kernel
theorem dX8_closes_14 : decode cX8_closes 14 = .ok (.ifCond .ne 6, 3) := by decide +kernel
theorem dX8_closes_17 : decode cX8_closes 17 = .ok (.bipush (-102), 2) := by decide +kernel
theorem dX8_closes_19 : decode cX8_closes 19 = .ok (.ireturn, 1) := by decide +kernel
theorem dX8_closes_20 : decode cX8_closes 20 = .ok (.iload_n 3, 1) := by decide +kernel
theorem dX8_closes_21 : decode cX8_closes 21 = .ok (.iconst 0, 1) := by decide +kernel
theorem dX8_closes_22 : decode cX8_closes 22 = .ok (.aload_n 0, 1) := by decide +kernel
theorem dX8_closes_23 : decode cX8_closes 23 = .ok (.getfield 237, 3) := by decide +kernel
theorem dX8_closes_26 : decode cX8_closes 26 = .ok (.iconst 1, 1) := by decide +kernel
theorem dX8_closes_27 : decode cX8_closes 27 = .ok (.isub, 1) := by decide +kernel
theorem dX8_closes_28 : decode cX8_closes 28 = .ok (.invokestatic 88, 3) := by decide +kernel
theorem dX8_closes_31 : decode cX8_closes 31 = .ok (.ifCond .eq 13, 3) := by decide +kernel
theorem dX8_closes_34 : decode cX8_closes 34 = .ok (.aload_n 0, 1) := by decide +kernel
theorem dX8_closes_35 : decode cX8_closes 35 = .ok (.iload_n 1, 1) := by decide +kernel
theorem dX8_closes_36 : decode cX8_closes 36 = .ok (.iload_n 2, 1) := by decide +kernel
theorem dX8_closes_37 : decode cX8_closes 37 = .ok (.iload_n 3, 1) := by decide +kernel
theorem dX8_closes_38 : decode cX8_closes 38 = .ok (.invokevirtual 240, 3) := by decide +kernel
theorem dX8_closes_41 : decode cX8_closes 41 = .ok (.goto 5, 3) := by decide +kernel
theorem dX8_closes_44 : decode cX8_closes 44 = .ok (.bipush (-101), 2) := by decide +kernel
theorem dX8_closes_46 : decode cX8_closes 46 = .ok (.ireturn, 1) := by decide +kernel
theorem dX8_closesOf_0 : decode cX8_closesOf 0 = .ok (.aload_n 0, 1) := by decide +kernel
theorem dX8_closesOf_1 : decode cX8_closesOf 1 = .ok (.aload_n 0, 1) := by decide +kernel
theorem dX8_closesOf_2 : decode cX8_closesOf 2 = .ok (.getfield 50, 3) := by decide +kernel
theorem dX8_closesOf_5 : decode cX8_closesOf 5 = .ok (.iconst 5, 1) := by decide +kernel
theorem dX8_closesOf_6 : decode cX8_closesOf 6 = .ok (.iload_n 3, 1) := by decide +kernel
theorem dX8_closesOf_7 : decode cX8_closesOf 7 = .ok (.imul, 1) := by decide +kernel
theorem dX8_closesOf_8 : decode cX8_closesOf 8 = .ok (.iaload, 1) := by decide +kernel
theorem dX8_closesOf_9 : decode cX8_closesOf 9 = .ok (.iload_n 2, 1) := by decide +kernel
theorem dX8_closesOf_10 : decode cX8_closesOf 10 = .ok (.invokevirtual 188, 3) := by decide +kernel
theorem dX8_closesOf_13 : decode cX8_closesOf 13 = .ok (.ifCond .eq 21, 3) := by decide +kernel
theorem dX8_closesOf_16 : decode cX8_closesOf 16 = .ok (.aload_n 0, 1) := by decide +kernel
theorem dX8_closesOf_17 : decode cX8_closesOf 17 = .ok (.aload_n 0, 1) := by decide +kernel
theorem dX8_closesOf_18 : decode cX8_closesOf 18 = .ok (.getfield 50, 3) := by decide +kernel
theorem dX8_closesOf_21 : decode cX8_closesOf 21 = .ok (.iconst 5, 1) := by decide +kernel
theorem dX8_closesOf_22 : decode cX8_closesOf 22 = .ok (.iload_n 3, 1) := by decide +kernel
theorem dX8_closesOf_23 : decode cX8_closesOf 23 = .ok (.imul, 1) := by decide +kernel
theorem dX8_closesOf_24 : decode cX8_closesOf 24 = .ok (.iconst 2, 1) := by decide +kernel
theorem dX8_closesOf_25 : decode cX8_closesOf 25 = .ok (.iadd, 1) := by decide +kernel
theorem dX8_closesOf_26 : decode cX8_closesOf 26 = .ok (.iaload, 1) := by decide +kernel
theorem dX8_closesOf_27 : decode cX8_closesOf 27 = .ok (.iload_n 2, 1) := by decide +kernel
theorem dX8_closesOf_28 : decode cX8_closesOf 28 = .ok (.invokevirtual 188, 3) := by decide +kernel
theorem dX8_closesOf_31 : decode cX8_closesOf 31 = .ok (.ifCond .ne 5, 3) := by decide +kernel
theorem dX8_closesOf_34 : decode cX8_closesOf 34 = .ok (.iconst (-1), 1) := by decide +kernel
theorem dX8_closesOf_35 : decode cX8_closesOf 35 = .ok (.ireturn, 1) := by decide +kernel
theorem dX8_closesOf_36 : decode cX8_closesOf 36 = .ok (.aload_n 0, 1) := by decide +kernel
theorem dX8_closesOf_37 : decode cX8_closesOf 37 = .ok (.iload_n 1, 1) := by decide +kernel
theorem dX8_closesOf_38 : decode cX8_closesOf 38 = .ok (.iload_n 2, 1) := by decide +kernel
theorem dX8_closesOf_39 : decode cX8_closesOf 39 = .ok (.invokevirtual 219, 3) := by decide +kernel
theorem dX8_closesOf_42 : decode cX8_closesOf 42 = .ok (.istore 4, 2) := by decide +kernel
theorem dX8_closesOf_44 : decode cX8_closesOf 44 = .ok (.aload_n 0, 1) := by decide +kernel
theorem dX8_closesOf_45 : decode cX8_closesOf 45 = .ok (.iload_n 1, 1) := by decide +kernel
theorem dX8_closesOf_46 : decode cX8_closesOf 46 = .ok (.iload_n 2, 1) := by decide +kernel
theorem dX8_closesOf_47 : decode cX8_closesOf 47 = .ok (.iload 4, 2) := by decide +kernel
theorem dX8_closesOf_49 : decode cX8_closesOf 49 = .ok (.iconst (-1), 1) := by decide +kernel
theorem dX8_closesOf_50 : decode cX8_closesOf 50 = .ok (.invokevirtual 222, 3) := by decide +kernel
theorem dX8_closesOf_53 : decode cX8_closesOf 53 = .ok (.aload_n 0, 1) := by decide +kernel
theorem dX8_closesOf_54 : decode cX8_closesOf 54 = .ok (.iload_n 2, 1) := by decide +kernel
theorem dX8_closesOf_55 : decode cX8_closesOf 55 = .ok (.invokevirtual 234, 3) := by decide +kernel
theorem dX8_closesOf_58 : decode cX8_closesOf 58 = .ok (.istore 5, 2) := by decide +kernel
theorem dX8_closesOf_60 : decode cX8_closesOf 60 = .ok (.aload_n 0, 1) := by decide +kernel
theorem dX8_closesOf_61 : decode cX8_closesOf 61 = .ok (.iload_n 1, 1) := by decide +kernel
theorem dX8_closesOf_62 : decode cX8_closesOf 62 = .ok (.iload_n 2, 1) := by decide +kernel
theorem dX8_closesOf_63 : decode cX8_closesOf 63 = .ok (.iload 4, 2) := by decide +kernel
theorem dX8_closesOf_65 : decode cX8_closesOf 65 = .ok (.iload_n 3, 1) := by decide +kernel
theorem dX8_closesOf_66 : decode cX8_closesOf 66 = .ok (.invokevirtual 222, 3) := by decide +kernel
theorem dX8_closesOf_69 : decode cX8_closesOf 69 = .ok (.iload 5, 2) := by decide +kernel
theorem dX8_closesOf_71 : decode cX8_closesOf 71 = .ok (.iconst (-1), 1) := by decide +kernel
theorem dX8_closesOf_72 : decode cX8_closesOf 72 = .ok (.if_icmp .eq 10, 3) := by decide +kernel
theorem dX8_closesOf_75 : decode cX8_closesOf 75 = .ok (.aload_n 0, 1) := by decide +kernel
theorem dX8_closesOf_76 : decode cX8_closesOf 76 = .ok (.getfield 201, 3) := by decide +kernel
theorem dX8_closesOf_79 : decode cX8_closesOf 79 = .ok (.ifCond .ne 7, 3) := by decide +kernel
theorem dX8_closesOf_82 : decode cX8_closesOf 82 = .ok (.iconst (-1), 1) := by decide +kernel
theorem dX8_closesOf_83 : decode cX8_closesOf 83 = .ok (.goto 11, 3) := by decide +kernel
theorem dX8_closesOf_86 : decode cX8_closesOf 86 = .ok (.iload 5, 2) := by decide +kernel
theorem dX8_closesOf_88 : decode cX8_closesOf 88 = .ok (.aload_n 0, 1) := by decide +kernel
theorem dX8_closesOf_89 : decode cX8_closesOf 89 = .ok (.iload_n 2, 1) := by decide +kernel
theorem dX8_closesOf_90 : decode cX8_closesOf 90 = .ok (.invokevirtual 234, 3) := by decide +kernel
theorem dX8_closesOf_93 : decode cX8_closesOf 93 = .ok (.isub, 1) := by decide +kernel
theorem dX8_closesOf_94 : decode cX8_closesOf 94 = .ok (.ireturn, 1) := by decide +kernel
theorem dX8_come_0 : decode cX8_come 0 = .ok (.aload_n 0, 1) := by decide +kernel
theorem dX8_come_1 : decode cX8_come 1 = .ok (.getfield 122, 3) := by decide +kernel
theorem dX8_come_4 : decode cX8_come 4 = .ok (.bipush 8, 2) := by decide +kernel
theorem dX8_come_6 : decode cX8_come 6 = .ok (.if_icmp .ne 6, 3) := by decide +kernel
theorem dX8_come_9 : decode cX8_come 9 = .ok (.bipush (-104), 2) := by decide +kernel
theorem dX8_come_11 : decode cX8_come 11 = .ok (.ireturn, 1) := by decide +kernel
theorem dX8_come_12 : decode cX8_come 12 = .ok (.aload_n 0, 1) := by decide +kernel
theorem dX8_come_13 : decode cX8_come 13 = .ok (.getfield 31, 3) := by decide +kernel
theorem dX8_come_16 : decode cX8_come 16 = .ok (.bipush 7, 2) := by decide +kernel
theorem dX8_come_18 : decode cX8_come 18 = .ok (.aload_n 0, 1) := by decide +kernel
theorem dX8_come_19 : decode cX8_come 19 = .ok (.getfield 122, 3) := by decide +kernel
theorem dX8_come_22 : decode cX8_come 22 = .ok (.imul, 1) := by decide +kernel
theorem dX8_come_23 : decode cX8_come 23 = .ok (.iload_n 1, 1) := by decide +kernel
theorem dX8_come_24 : decode cX8_come 24 = .ok (.iastore, 1) := by decide +kernel
theorem dX8_come_25 : decode cX8_come 25 = .ok (.aload_n 0, 1) := by decide +kernel
theorem dX8_come_26 : decode cX8_come 26 = .ok (.getfield 31, 3) := by decide +kernel
theorem dX8_come_29 : decode cX8_come 29 = .ok (.bipush 7, 2) := by decide +kernel
theorem dX8_come_31 : decode cX8_come 31 = .ok (.aload_n 0, 1) := by decide +kernel
theorem dX8_come_32 : decode cX8_come 32 = .ok (.getfield 122, 3) := by decide +kernel
theorem dX8_come_35 : decode cX8_come 35 = .ok (.imul, 1) := by decide +kernel
theorem dX8_come_36 : decode cX8_come 36 = .ok (.iconst 1, 1) := by decide +kernel
theorem dX8_come_37 : decode cX8_come 37 = .ok (.iadd, 1) := by decide +kernel
theorem dX8_come_38 : decode cX8_come 38 = .ok (.iload_n 2, 1) := by decide +kernel
theorem dX8_come_39 : decode cX8_come 39 = .ok (.iastore, 1) := by decide +kernel
theorem dX8_come_40 : decode cX8_come 40 = .ok (.aload_n 0, 1) := by decide +kernel
theorem dX8_come_41 : decode cX8_come 41 = .ok (.getfield 31, 3) := by decide +kernel
theorem dX8_come_44 : decode cX8_come 44 = .ok (.bipush 7, 2) := by decide +kernel
theorem dX8_come_46 : decode cX8_come 46 = .ok (.aload_n 0, 1) := by decide +kernel
theorem dX8_come_47 : decode cX8_come 47 = .ok (.getfield 122, 3) := by decide +kernel
theorem dX8_come_50 : decode cX8_come 50 = .ok (.imul, 1) := by decide +kernel
theorem dX8_come_51 : decode cX8_come 51 = .ok (.iconst 2, 1) := by decide +kernel
theorem dX8_come_52 : decode cX8_come 52 = .ok (.iadd, 1) := by decide +kernel
theorem dX8_come_53 : decode cX8_come 53 = .ok (.iload_n 3, 1) := by decide +kernel
theorem dX8_come_54 : decode cX8_come 54 = .ok (.iastore, 1) := by decide +kernel
theorem dX8_come_55 : decode cX8_come 55 = .ok (.aload_n 0, 1) := by decide +kernel
theorem dX8_come_56 : decode cX8_come 56 = .ok (.getfield 31, 3) := by decide +kernel
theorem dX8_come_59 : decode cX8_come 59 = .ok (.bipush 7, 2) := by decide +kernel
theorem dX8_come_61 : decode cX8_come 61 = .ok (.aload_n 0, 1) := by decide +kernel
theorem dX8_come_62 : decode cX8_come 62 = .ok (.getfield 122, 3) := by decide +kernel
theorem dX8_come_65 : decode cX8_come 65 = .ok (.imul, 1) := by decide +kernel
theorem dX8_come_66 : decode cX8_come 66 = .ok (.iconst 3, 1) := by decide +kernel
theorem dX8_come_67 : decode cX8_come 67 = .ok (.iadd, 1) := by decide +kernel
theorem dX8_come_68 : decode cX8_come 68 = .ok (.iload 4, 2) := by decide +kernel
theorem dX8_come_70 : decode cX8_come 70 = .ok (.iastore, 1) := by decide +kernel
theorem dX8_come_71 : decode cX8_come 71 = .ok (.aload_n 0, 1) := by decide +kernel
theorem dX8_come_72 : decode cX8_come 72 = .ok (.getfield 31, 3) := by decide +kernel
theorem dX8_come_75 : decode cX8_come 75 = .ok (.bipush 7, 2) := by decide +kernel
theorem dX8_come_77 : decode cX8_come 77 = .ok (.aload_n 0, 1) := by decide +kernel
theorem dX8_come_78 : decode cX8_come 78 = .ok (.getfield 122, 3) := by decide +kernel
theorem dX8_come_81 : decode cX8_come 81 = .ok (.imul, 1) := by decide +kernel
theorem dX8_come_82 : decode cX8_come 82 = .ok (.iconst 4, 1) := by decide +kernel
theorem dX8_come_83 : decode cX8_come 83 = .ok (.iadd, 1) := by decide +kernel
theorem dX8_come_84 : decode cX8_come 84 = .ok (.iload 5, 2) := by decide +kernel
theorem dX8_come_86 : decode cX8_come 86 = .ok (.iastore, 1) := by decide +kernel
theorem dX8_come_87 : decode cX8_come 87 = .ok (.aload_n 0, 1) := by decide +kernel
theorem dX8_come_88 : decode cX8_come 88 = .ok (.getfield 31, 3) := by decide +kernel
theorem dX8_come_91 : decode cX8_come 91 = .ok (.bipush 7, 2) := by decide +kernel
theorem dX8_come_93 : decode cX8_come 93 = .ok (.aload_n 0, 1) := by decide +kernel
theorem dX8_come_94 : decode cX8_come 94 = .ok (.getfield 122, 3) := by decide +kernel
theorem dX8_come_97 : decode cX8_come 97 = .ok (.imul, 1) := by decide +kernel
theorem dX8_come_98 : decode cX8_come 98 = .ok (.iconst 5, 1) := by decide +kernel
theorem dX8_come_99 : decode cX8_come 99 = .ok (.iadd, 1) := by decide +kernel
theorem dX8_come_100 : decode cX8_come 100 = .ok (.iload 6, 2) := by decide +kernel
theorem dX8_come_102 : decode cX8_come 102 = .ok (.iastore, 1) := by decide +kernel
theorem dX8_come_103 : decode cX8_come 103 = .ok (.aload_n 0, 1) := by decide +kernel
theorem dX8_come_104 : decode cX8_come 104 = .ok (.getfield 31, 3) := by decide +kernel
theorem dX8_come_107 : decode cX8_come 107 = .ok (.bipush 7, 2) := by decide +kernel
theorem dX8_come_109 : decode cX8_come 109 = .ok (.aload_n 0, 1) := by decide +kernel
theorem dX8_come_110 : decode cX8_come 110 = .ok (.getfield 122, 3) := by decide +kernel
theorem dX8_come_113 : decode cX8_come 113 = .ok (.imul, 1) := by decide +kernel
theorem dX8_come_114 : decode cX8_come 114 = .ok (.bipush 6, 2) := by decide +kernel
theorem dX8_come_116 : decode cX8_come 116 = .ok (.iadd, 1) := by decide +kernel
theorem dX8_come_117 : decode cX8_come 117 = .ok (.iload 7, 2) := by decide +kernel
theorem dX8_come_119 : decode cX8_come 119 = .ok (.iastore, 1) := by decide +kernel
theorem dX8_come_120 : decode cX8_come 120 = .ok (.aload_n 0, 1) := by decide +kernel
theorem dX8_come_121 : decode cX8_come 121 = .ok (.dup, 1) := by decide +kernel
theorem dX8_come_122 : decode cX8_come 122 = .ok (.getfield 122, 3) := by decide +kernel
theorem dX8_come_125 : decode cX8_come 125 = .ok (.iconst 1, 1) := by decide +kernel
theorem dX8_come_126 : decode cX8_come 126 = .ok (.iadd, 1) := by decide +kernel
theorem dX8_come_127 : decode cX8_come 127 = .ok (.putfield 122, 3) := by decide +kernel
theorem dX8_come_130 : decode cX8_come 130 = .ok (.aload_n 0, 1) := by decide +kernel
theorem dX8_come_131 : decode cX8_come 131 = .ok (.getfield 122, 3) := by decide +kernel
theorem dX8_come_134 : decode cX8_come 134 = .ok (.iconst 1, 1) := by decide +kernel
theorem dX8_come_135 : decode cX8_come 135 = .ok (.isub, 1) := by decide +kernel
theorem dX8_come_136 : decode cX8_come 136 = .ok (.ireturn, 1) := by decide +kernel
theorem dX8_count_0 : decode cX8_count 0 = .ok (.aload_n 0, 1) := by decide +kernel
theorem dX8_count_1 : decode cX8_count 1 = .ok (.iload_n 1, 1) := by decide +kernel
theorem dX8_count_2 : decode cX8_count 2 = .ok (.invokevirtual 249, 3) := by decide +kernel
theorem dX8_count_5 : decode cX8_count 5 = .ok (.ireturn, 1) := by decide +kernel
theorem dX8_counts_0 : decode cX8_counts 0 = .ok (.iload_n 1, 1) := by decide +kernel
theorem dX8_counts_1 : decode cX8_counts 1 = .ok (.invokestatic 160, 3) := by decide +kernel
theorem dX8_counts_4 : decode cX8_counts 4 = .ok (.ifCond .eq 20, 3) := by decide +kernel
theorem dX8_counts_7 : decode cX8_counts 7 = .ok (.aload_n 0, 1) := by decide +kernel
theorem dX8_counts_8 : decode cX8_counts 8 = .ok (.iload_n 2, 1) := by decide +kernel
theorem dX8_counts_9 : decode cX8_counts 9 = .ok (.invokevirtual 103, 3) := by decide +kernel
theorem dX8_counts_12 : decode cX8_counts 12 = .ok (.ifCond .eq 12, 3) := by decide +kernel
theorem dX8_counts_15 : decode cX8_counts 15 = .ok (.aload_n 0, 1) := by decide +kernel
theorem dX8_counts_16 : decode cX8_counts 16 = .ok (.iload_n 1, 1) := by decide +kernel
theorem dX8_counts_17 : decode cX8_counts 17 = .ok (.iload_n 2, 1) := by decide +kernel
theorem dX8_counts_18 : decode cX8_counts 18 = .ok (.invokevirtual 182, 3) := by decide +kernel
theorem dX8_counts_21 : decode cX8_counts 21 = .ok (.goto 5, 3) := by decide +kernel
theorem dX8_counts_24 : decode cX8_counts 24 = .ok (.bipush (-101), 2) := by decide +kernel
theorem dX8_counts_26 : decode cX8_counts 26 = .ok (.ireturn, 1) := by decide +kernel
theorem dX8_countsOf_0 : decode cX8_countsOf 0 = .ok (.aload_n 0, 1) := by decide +kernel
theorem dX8_countsOf_1 : decode cX8_countsOf 1 = .ok (.getfield 53, 3) := by decide +kernel
theorem dX8_countsOf_4 : decode cX8_countsOf 4 = .ok (.iconst 0, 1) := by decide +kernel
theorem dX8_countsOf_5 : decode cX8_countsOf 5 = .ok (.aload_n 0, 1) := by decide +kernel
theorem dX8_countsOf_6 : decode cX8_countsOf 6 = .ok (.getfield 7, 3) := by decide +kernel
theorem dX8_countsOf_9 : decode cX8_countsOf 9 = .ok (.iload_n 2, 1) := by decide +kernel
theorem dX8_countsOf_10 : decode cX8_countsOf 10 = .ok (.iaload, 1) := by decide +kernel
theorem dX8_countsOf_11 : decode cX8_countsOf 11 = .ok (.iastore, 1) := by decide +kernel
theorem dX8_countsOf_12 : decode cX8_countsOf 12 = .ok (.aload_n 0, 1) := by decide +kernel
theorem dX8_countsOf_13 : decode cX8_countsOf 13 = .ok (.getfield 53, 3) := by decide +kernel
theorem dX8_countsOf_16 : decode cX8_countsOf 16 = .ok (.iconst 1, 1) := by decide +kernel
theorem dX8_countsOf_17 : decode cX8_countsOf 17 = .ok (.aload_n 0, 1) := by decide +kernel
theorem dX8_countsOf_18 : decode cX8_countsOf 18 = .ok (.getfield 13, 3) := by decide +kernel
theorem dX8_countsOf_21 : decode cX8_countsOf 21 = .ok (.iload_n 2, 1) := by decide +kernel
theorem dX8_countsOf_22 : decode cX8_countsOf 22 = .ok (.iaload, 1) := by decide +kernel
theorem dX8_countsOf_23 : decode cX8_countsOf 23 = .ok (.iastore, 1) := by decide +kernel
theorem dX8_countsOf_24 : decode cX8_countsOf 24 = .ok (.aload_n 0, 1) := by decide +kernel
theorem dX8_countsOf_25 : decode cX8_countsOf 25 = .ok (.getfield 53, 3) := by decide +kernel
theorem dX8_countsOf_28 : decode cX8_countsOf 28 = .ok (.iconst 2, 1) := by decide +kernel
theorem dX8_countsOf_29 : decode cX8_countsOf 29 = .ok (.aload_n 0, 1) := by decide +kernel
theorem dX8_countsOf_30 : decode cX8_countsOf 30 = .ok (.getfield 16, 3) := by decide +kernel
theorem dX8_countsOf_33 : decode cX8_countsOf 33 = .ok (.iload_n 2, 1) := by decide +kernel
theorem dX8_countsOf_34 : decode cX8_countsOf 34 = .ok (.iaload, 1) := by decide +kernel
theorem dX8_countsOf_35 : decode cX8_countsOf 35 = .ok (.iastore, 1) := by decide +kernel
theorem dX8_countsOf_36 : decode cX8_countsOf 36 = .ok (.aload_n 0, 1) := by decide +kernel
theorem dX8_countsOf_37 : decode cX8_countsOf 37 = .ok (.getfield 53, 3) := by decide +kernel
theorem dX8_countsOf_40 : decode cX8_countsOf 40 = .ok (.iconst 3, 1) := by decide +kernel
theorem dX8_countsOf_41 : decode cX8_countsOf 41 = .ok (.iload_n 2, 1) := by decide +kernel
theorem dX8_countsOf_42 : decode cX8_countsOf 42 = .ok (.iastore, 1) := by decide +kernel
theorem dX8_countsOf_43 : decode cX8_countsOf 43 = .ok (.aload_n 0, 1) := by decide +kernel
theorem dX8_countsOf_44 : decode cX8_countsOf 44 = .ok (.iload_n 1, 1) := by decide +kernel
theorem dX8_countsOf_45 : decode cX8_countsOf 45 = .ok (.bipush 67, 2) := by decide +kernel
theorem dX8_countsOf_47 : decode cX8_countsOf 47 = .ok (.iconst 0, 1) := by decide +kernel
theorem dX8_countsOf_48 : decode cX8_countsOf 48 = .ok (.invokevirtual 179, 3) := by decide +kernel
theorem dX8_countsOf_51 : decode cX8_countsOf 51 = .ok (.ireturn, 1) := by decide +kernel
theorem dX8_digest_0 : decode cX8_digest 0 = .ok (.aload_n 0, 1) := by decide +kernel
theorem dX8_digest_1 : decode cX8_digest 1 = .ok (.ldc2_w 258, 3) := by decide +kernel
theorem dX8_digest_4 : decode cX8_digest 4 = .ok (.putfield 254, 3) := by decide +kernel
theorem dX8_digest_7 : decode cX8_digest 7 = .ok (.iconst 0, 1) := by decide +kernel
theorem dX8_digest_8 : decode cX8_digest 8 = .ok (.istore_n 1, 1) := by decide +kernel
theorem dX8_digest_9 : decode cX8_digest 9 = .ok (.iload_n 1, 1) := by decide +kernel
theorem dX8_digest_10 : decode cX8_digest 10 = .ok (.aload_n 0, 1) := by decide +kernel
theorem dX8_digest_11 : decode cX8_digest 11 = .ok (.getfield 84, 3) := by decide +kernel
theorem dX8_digest_14 : decode cX8_digest 14 = .ok (.if_icmp .ge 45, 3) := by decide +kernel
theorem dX8_digest_17 : decode cX8_digest 17 = .ok (.iconst 0, 1) := by decide +kernel
theorem dX8_digest_18 : decode cX8_digest 18 = .ok (.istore_n 2, 1) := by decide +kernel
theorem dX8_digest_19 : decode cX8_digest 19 = .ok (.iload_n 2, 1) := by decide +kernel
theorem dX8_digest_20 : decode cX8_digest 20 = .ok (.bipush 6, 2) := by decide +kernel
theorem dX8_digest_22 : decode cX8_digest 22 = .ok (.if_icmp .ge 20, 3) := by decide +kernel
theorem dX8_digest_25 : decode cX8_digest 25 = .ok (.aload_n 0, 1) := by decide +kernel
theorem dX8_digest_26 : decode cX8_digest 26 = .ok (.aload_n 0, 1) := by decide +kernel
theorem dX8_digest_27 : decode cX8_digest 27 = .ok (.iload_n 1, 1) := by decide +kernel
theorem dX8_digest_28 : decode cX8_digest 28 = .ok (.iload_n 2, 1) := by decide +kernel
theorem dX8_digest_29 : decode cX8_digest 29 = .ok (.invokevirtual 106, 3) := by decide +kernel
theorem dX8_digest_32 : decode cX8_digest 32 = .ok (.i2l, 1) := by decide +kernel
theorem dX8_digest_33 : decode cX8_digest 33 = .ok (.invokevirtual 260, 3) := by decide +kernel
theorem dX8_digest_36 : decode cX8_digest 36 = .ok (.iinc 2 1, 3) := by decide +kernel
theorem dX8_digest_39 : decode cX8_digest 39 = .ok (.goto (-20), 3) := by decide +kernel
theorem dX8_digest_42 : decode cX8_digest 42 = .ok (.aload_n 0, 1) := by decide +kernel
theorem dX8_digest_43 : decode cX8_digest 43 = .ok (.aload_n 0, 1) := by decide +kernel
theorem dX8_digest_44 : decode cX8_digest 44 = .ok (.getfield 28, 3) := by decide +kernel
theorem dX8_digest_47 : decode cX8_digest 47 = .ok (.iload_n 1, 1) := by decide +kernel
theorem dX8_digest_48 : decode cX8_digest 48 = .ok (.iaload, 1) := by decide +kernel
theorem dX8_digest_49 : decode cX8_digest 49 = .ok (.i2l, 1) := by decide +kernel
theorem dX8_digest_50 : decode cX8_digest 50 = .ok (.invokevirtual 260, 3) := by decide +kernel
theorem dX8_digest_53 : decode cX8_digest 53 = .ok (.iinc 1 1, 3) := by decide +kernel
theorem dX8_digest_56 : decode cX8_digest 56 = .ok (.goto (-47), 3) := by decide +kernel
theorem dX8_digest_59 : decode cX8_digest 59 = .ok (.iconst 0, 1) := by decide +kernel
theorem dX8_digest_60 : decode cX8_digest 60 = .ok (.istore_n 1, 1) := by decide +kernel
theorem dX8_digest_61 : decode cX8_digest 61 = .ok (.iload_n 1, 1) := by decide +kernel
theorem dX8_digest_62 : decode cX8_digest 62 = .ok (.aload_n 0, 1) := by decide +kernel
theorem dX8_digest_63 : decode cX8_digest 63 = .ok (.getfield 122, 3) := by decide +kernel
theorem dX8_digest_66 : decode cX8_digest 66 = .ok (.if_icmp .ge 80, 3) := by decide +kernel
theorem dX8_digest_69 : decode cX8_digest 69 = .ok (.iconst 0, 1) := by decide +kernel
theorem dX8_digest_70 : decode cX8_digest 70 = .ok (.istore_n 2, 1) := by decide +kernel
theorem dX8_digest_71 : decode cX8_digest 71 = .ok (.iload_n 2, 1) := by decide +kernel
theorem dX8_digest_72 : decode cX8_digest 72 = .ok (.bipush 7, 2) := by decide +kernel
theorem dX8_digest_74 : decode cX8_digest 74 = .ok (.if_icmp .ge 25, 3) := by decide +kernel
theorem dX8_digest_77 : decode cX8_digest 77 = .ok (.aload_n 0, 1) := by decide +kernel
theorem dX8_digest_78 : decode cX8_digest 78 = .ok (.aload_n 0, 1) := by decide +kernel
theorem dX8_digest_79 : decode cX8_digest 79 = .ok (.getfield 31, 3) := by decide +kernel
theorem dX8_digest_82 : decode cX8_digest 82 = .ok (.bipush 7, 2) := by decide +kernel
theorem dX8_digest_84 : decode cX8_digest 84 = .ok (.iload_n 1, 1) := by decide +kernel
theorem dX8_digest_85 : decode cX8_digest 85 = .ok (.imul, 1) := by decide +kernel
theorem dX8_digest_86 : decode cX8_digest 86 = .ok (.iload_n 2, 1) := by decide +kernel
theorem dX8_digest_87 : decode cX8_digest 87 = .ok (.iadd, 1) := by decide +kernel
theorem dX8_digest_88 : decode cX8_digest 88 = .ok (.iaload, 1) := by decide +kernel
theorem dX8_digest_89 : decode cX8_digest 89 = .ok (.i2l, 1) := by decide +kernel
theorem dX8_digest_90 : decode cX8_digest 90 = .ok (.invokevirtual 260, 3) := by decide +kernel
theorem dX8_digest_93 : decode cX8_digest 93 = .ok (.iinc 2 1, 3) := by decide +kernel
theorem dX8_digest_96 : decode cX8_digest 96 = .ok (.goto (-25), 3) := by decide +kernel
theorem dX8_digest_99 : decode cX8_digest 99 = .ok (.iconst 0, 1) := by decide +kernel
theorem dX8_digest_100 : decode cX8_digest 100 = .ok (.istore_n 2, 1) := by decide +kernel
theorem dX8_digest_101 : decode cX8_digest 101 = .ok (.iload_n 2, 1) := by decide +kernel
theorem dX8_digest_102 : decode cX8_digest 102 = .ok (.iconst 3, 1) := by decide +kernel
theorem dX8_digest_103 : decode cX8_digest 103 = .ok (.if_icmp .ge 37, 3) := by decide +kernel
theorem dX8_digest_106 : decode cX8_digest 106 = .ok (.aload_n 0, 1) := by decide +kernel
theorem dX8_digest_107 : decode cX8_digest 107 = .ok (.getfield 31, 3) := by decide +kernel
theorem dX8_digest_110 : decode cX8_digest 110 = .ok (.bipush 7, 2) := by decide +kernel
theorem dX8_digest_112 : decode cX8_digest 112 = .ok (.iload_n 1, 1) := by decide +kernel
theorem dX8_digest_113 : decode cX8_digest 113 = .ok (.imul, 1) := by decide +kernel
theorem dX8_digest_114 : decode cX8_digest 114 = .ok (.iaload, 1) := by decide +kernel
theorem dX8_digest_115 : decode cX8_digest 115 = .ok (.iconst 1, 1) := by decide +kernel
theorem dX8_digest_116 : decode cX8_digest 116 = .ok (.if_icmp .ne 24, 3) := by decide +kernel
theorem dX8_digest_119 : decode cX8_digest 119 = .ok (.aload_n 0, 1) := by decide +kernel
theorem dX8_digest_120 : decode cX8_digest 120 = .ok (.aload_n 0, 1) := by decide +kernel
theorem dX8_digest_121 : decode cX8_digest 121 = .ok (.getfield 34, 3) := by decide +kernel
theorem dX8_digest_124 : decode cX8_digest 124 = .ok (.iconst 3, 1) := by decide +kernel
theorem dX8_digest_125 : decode cX8_digest 125 = .ok (.iload_n 1, 1) := by decide +kernel
theorem dX8_digest_126 : decode cX8_digest 126 = .ok (.imul, 1) := by decide +kernel
theorem dX8_digest_127 : decode cX8_digest 127 = .ok (.iload_n 2, 1) := by decide +kernel
theorem dX8_digest_128 : decode cX8_digest 128 = .ok (.iadd, 1) := by decide +kernel
theorem dX8_digest_129 : decode cX8_digest 129 = .ok (.iaload, 1) := by decide +kernel
theorem dX8_digest_130 : decode cX8_digest 130 = .ok (.i2l, 1) := by decide +kernel
theorem dX8_digest_131 : decode cX8_digest 131 = .ok (.invokevirtual 260, 3) := by decide +kernel
theorem dX8_digest_134 : decode cX8_digest 134 = .ok (.iinc 2 1, 3) := by decide +kernel
theorem dX8_digest_137 : decode cX8_digest 137 = .ok (.goto (-36), 3) := by decide +kernel
theorem dX8_digest_140 : decode cX8_digest 140 = .ok (.iinc 1 1, 3) := by decide +kernel
theorem dX8_digest_143 : decode cX8_digest 143 = .ok (.goto (-82), 3) := by decide +kernel
theorem dX8_digest_146 : decode cX8_digest 146 = .ok (.iconst 0, 1) := by decide +kernel
theorem dX8_digest_147 : decode cX8_digest 147 = .ok (.istore_n 1, 1) := by decide +kernel
theorem dX8_digest_148 : decode cX8_digest 148 = .ok (.iload_n 1, 1) := by decide +kernel
theorem dX8_digest_149 : decode cX8_digest 149 = .ok (.iconst 2, 1) := by decide +kernel
theorem dX8_digest_150 : decode cX8_digest 150 = .ok (.if_icmp .ge 106, 3) := by decide +kernel
theorem dX8_digest_153 : decode cX8_digest 153 = .ok (.iconst 0, 1) := by decide +kernel
theorem dX8_digest_154 : decode cX8_digest 154 = .ok (.istore_n 2, 1) := by decide +kernel
theorem dX8_digest_155 : decode cX8_digest 155 = .ok (.iload_n 2, 1) := by decide +kernel
theorem dX8_digest_156 : decode cX8_digest 156 = .ok (.aload_n 0, 1) := by decide +kernel
theorem dX8_digest_157 : decode cX8_digest 157 = .ok (.getfield 84, 3) := by decide +kernel
theorem dX8_digest_160 : decode cX8_digest 160 = .ok (.if_icmp .ge 20, 3) := by decide +kernel
theorem dX8_digest_163 : decode cX8_digest 163 = .ok (.aload_n 0, 1) := by decide +kernel
theorem dX8_digest_164 : decode cX8_digest 164 = .ok (.aload_n 0, 1) := by decide +kernel
theorem dX8_digest_165 : decode cX8_digest 165 = .ok (.iload_n 1, 1) := by decide +kernel
theorem dX8_digest_166 : decode cX8_digest 166 = .ok (.iload_n 2, 1) := by decide +kernel
theorem dX8_digest_167 : decode cX8_digest 167 = .ok (.invokevirtual 182, 3) := by decide +kernel
theorem dX8_digest_170 : decode cX8_digest 170 = .ok (.i2l, 1) := by decide +kernel
theorem dX8_digest_171 : decode cX8_digest 171 = .ok (.invokevirtual 260, 3) := by decide +kernel
theorem dX8_digest_174 : decode cX8_digest 174 = .ok (.iinc 2 1, 3) := by decide +kernel
theorem dX8_digest_177 : decode cX8_digest 177 = .ok (.goto (-22), 3) := by decide +kernel
theorem dX8_digest_180 : decode cX8_digest 180 = .ok (.iconst 0, 1) := by decide +kernel
theorem dX8_digest_181 : decode cX8_digest 181 = .ok (.istore_n 2, 1) := by decide +kernel
theorem dX8_digest_182 : decode cX8_digest 182 = .ok (.iload_n 2, 1) := by decide +kernel
theorem dX8_digest_183 : decode cX8_digest 183 = .ok (.aload_n 0, 1) := by decide +kernel
theorem dX8_digest_184 : decode cX8_digest 184 = .ok (.getfield 122, 3) := by decide +kernel
theorem dX8_digest_187 : decode cX8_digest 187 = .ok (.if_icmp .ge 20, 3) := by decide +kernel
theorem dX8_digest_190 : decode cX8_digest 190 = .ok (.aload_n 0, 1) := by decide +kernel
theorem dX8_digest_191 : decode cX8_digest 191 = .ok (.aload_n 0, 1) := by decide +kernel
theorem dX8_digest_192 : decode cX8_digest 192 = .ok (.iload_n 1, 1) := by decide +kernel
theorem dX8_digest_193 : decode cX8_digest 193 = .ok (.iload_n 2, 1) := by decide +kernel
theorem dX8_digest_194 : decode cX8_digest 194 = .ok (.invokevirtual 185, 3) := by decide +kernel
theorem dX8_digest_197 : decode cX8_digest 197 = .ok (.i2l, 1) := by decide +kernel
theorem dX8_digest_198 : decode cX8_digest 198 = .ok (.invokevirtual 260, 3) := by decide +kernel
theorem dX8_digest_201 : decode cX8_digest 201 = .ok (.iinc 2 1, 3) := by decide +kernel
theorem dX8_digest_204 : decode cX8_digest 204 = .ok (.goto (-22), 3) := by decide +kernel
theorem dX8_digest_207 : decode cX8_digest 207 = .ok (.aload_n 0, 1) := by decide +kernel
theorem dX8_digest_208 : decode cX8_digest 208 = .ok (.iload_n 1, 1) := by decide +kernel
theorem dX8_digest_209 : decode cX8_digest 209 = .ok (.bipush 9, 2) := by decide +kernel
theorem dX8_digest_211 : decode cX8_digest 211 = .ok (.aload_n 0, 1) := by decide +kernel
theorem dX8_digest_212 : decode cX8_digest 212 = .ok (.iload_n 1, 1) := by decide +kernel
theorem dX8_digest_213 : decode cX8_digest 213 = .ok (.bipush 9, 2) := by decide +kernel
theorem dX8_digest_215 : decode cX8_digest 215 = .ok (.invokevirtual 219, 3) := by decide +kernel
theorem dX8_digest_218 : decode cX8_digest 218 = .ok (.iconst (-1), 1) := by decide +kernel
theorem dX8_digest_219 : decode cX8_digest 219 = .ok (.invokevirtual 222, 3) := by decide +kernel
theorem dX8_digest_222 : decode cX8_digest 222 = .ok (.aload_n 0, 1) := by decide +kernel
theorem dX8_digest_223 : decode cX8_digest 223 = .ok (.aload_n 0, 1) := by decide +kernel
theorem dX8_digest_224 : decode cX8_digest 224 = .ok (.getfield 201, 3) := by decide +kernel
theorem dX8_digest_227 : decode cX8_digest 227 = .ok (.ifCond .eq 7, 3) := by decide +kernel
theorem dX8_digest_230 : decode cX8_digest 230 = .ok (.lconst 1, 1) := by decide +kernel
theorem dX8_digest_231 : decode cX8_digest 231 = .ok (.goto 4, 3) := by decide +kernel
theorem dX8_digest_234 : decode cX8_digest 234 = .ok (.lconst 0, 1) := by decide +kernel
theorem dX8_digest_235 : decode cX8_digest 235 = .ok (.invokevirtual 260, 3) := by decide +kernel
theorem dX8_digest_238 : decode cX8_digest 238 = .ok (.aload_n 0, 1) := by decide +kernel
theorem dX8_digest_239 : decode cX8_digest 239 = .ok (.aload_n 0, 1) := by decide +kernel
theorem dX8_digest_240 : decode cX8_digest 240 = .ok (.iload_n 1, 1) := by decide +kernel
theorem dX8_digest_241 : decode cX8_digest 241 = .ok (.bipush 9, 2) := by decide +kernel
theorem dX8_digest_243 : decode cX8_digest 243 = .ok (.invokevirtual 231, 3) := by decide +kernel
theorem dX8_digest_246 : decode cX8_digest 246 = .ok (.i2l, 1) := by decide +kernel
theorem dX8_digest_247 : decode cX8_digest 247 = .ok (.invokevirtual 260, 3) := by decide +kernel
theorem dX8_digest_250 : decode cX8_digest 250 = .ok (.iinc 1 1, 3) := by decide +kernel
theorem dX8_digest_253 : decode cX8_digest 253 = .ok (.goto (-105), 3) := by decide +kernel
theorem dX8_digest_256 : decode cX8_digest 256 = .ok (.iconst 0, 1) := by decide +kernel
theorem dX8_digest_257 : decode cX8_digest 257 = .ok (.istore_n 1, 1) := by decide +kernel
theorem dX8_digest_258 : decode cX8_digest 258 = .ok (.iload_n 1, 1) := by decide +kernel
theorem dX8_digest_259 : decode cX8_digest 259 = .ok (.iconst 5, 1) := by decide +kernel
theorem dX8_digest_260 : decode cX8_digest 260 = .ok (.aload_n 0, 1) := by decide +kernel
theorem dX8_digest_261 : decode cX8_digest 261 = .ok (.getfield 237, 3) := by decide +kernel
theorem dX8_digest_264 : decode cX8_digest 264 = .ok (.imul, 1) := by decide +kernel
theorem dX8_digest_265 : decode cX8_digest 265 = .ok (.if_icmp .ge 20, 3) := by decide +kernel
theorem dX8_digest_268 : decode cX8_digest 268 = .ok (.aload_n 0, 1) := by decide +kernel
theorem dX8_digest_269 : decode cX8_digest 269 = .ok (.aload_n 0, 1) := by decide +kernel
theorem dX8_digest_270 : decode cX8_digest 270 = .ok (.getfield 50, 3) := by decide +kernel
theorem dX8_digest_273 : decode cX8_digest 273 = .ok (.iload_n 1, 1) := by decide +kernel
theorem dX8_digest_274 : decode cX8_digest 274 = .ok (.iaload, 1) := by decide +kernel
theorem dX8_digest_275 : decode cX8_digest 275 = .ok (.i2l, 1) := by decide +kernel
theorem dX8_digest_276 : decode cX8_digest 276 = .ok (.invokevirtual 260, 3) := by decide +kernel
theorem dX8_digest_279 : decode cX8_digest 279 = .ok (.iinc 1 1, 3) := by decide +kernel
theorem dX8_digest_282 : decode cX8_digest 282 = .ok (.goto (-24), 3) := by decide +kernel
theorem dX8_digest_285 : decode cX8_digest 285 = .ok (.iconst 0, 1) := by decide +kernel
theorem dX8_digest_286 : decode cX8_digest 286 = .ok (.istore_n 1, 1) := by decide +kernel
theorem dX8_digest_287 : decode cX8_digest 287 = .ok (.iload_n 1, 1) := by decide +kernel
theorem dX8_digest_288 : decode cX8_digest 288 = .ok (.aload_n 0, 1) := by decide +kernel
theorem dX8_digest_289 : decode cX8_digest 289 = .ok (.getfield 140, 3) := by decide +kernel
theorem dX8_digest_292 : decode cX8_digest 292 = .ok (.if_icmp .ge 20, 3) := by decide +kernel
theorem dX8_digest_295 : decode cX8_digest 295 = .ok (.aload_n 0, 1) := by decide +kernel
theorem dX8_digest_296 : decode cX8_digest 296 = .ok (.aload_n 0, 1) := by decide +kernel
theorem dX8_digest_297 : decode cX8_digest 297 = .ok (.getfield 37, 3) := by decide +kernel
theorem dX8_digest_300 : decode cX8_digest 300 = .ok (.iload_n 1, 1) := by decide +kernel
theorem dX8_digest_301 : decode cX8_digest 301 = .ok (.baload, 1) := by decide +kernel
theorem dX8_digest_302 : decode cX8_digest 302 = .ok (.i2l, 1) := by decide +kernel
theorem dX8_digest_303 : decode cX8_digest 303 = .ok (.invokevirtual 260, 3) := by decide +kernel
theorem dX8_digest_306 : decode cX8_digest 306 = .ok (.iinc 1 1, 3) := by decide +kernel
theorem dX8_digest_309 : decode cX8_digest 309 = .ok (.goto (-22), 3) := by decide +kernel
theorem dX8_digest_312 : decode cX8_digest 312 = .ok (.iconst 0, 1) := by decide +kernel
theorem dX8_digest_313 : decode cX8_digest 313 = .ok (.istore_n 1, 1) := by decide +kernel
theorem dX8_digest_314 : decode cX8_digest 314 = .ok (.iload_n 1, 1) := by decide +kernel
theorem dX8_digest_315 : decode cX8_digest 315 = .ok (.bipush 7, 2) := by decide +kernel
theorem dX8_digest_317 : decode cX8_digest 317 = .ok (.if_icmp .ge 19, 3) := by decide +kernel
theorem dX8_digest_320 : decode cX8_digest 320 = .ok (.aload_n 0, 1) := by decide +kernel
theorem dX8_digest_321 : decode cX8_digest 321 = .ok (.aload_n 0, 1) := by decide +kernel
theorem dX8_digest_322 : decode cX8_digest 322 = .ok (.iload_n 1, 1) := by decide +kernel
theorem dX8_digest_323 : decode cX8_digest 323 = .ok (.invokevirtual 249, 3) := by decide +kernel
theorem dX8_digest_326 : decode cX8_digest 326 = .ok (.i2l, 1) := by decide +kernel
theorem dX8_digest_327 : decode cX8_digest 327 = .ok (.invokevirtual 260, 3) := by decide +kernel
theorem dX8_digest_330 : decode cX8_digest 330 = .ok (.iinc 1 1, 3) := by decide +kernel
theorem dX8_digest_333 : decode cX8_digest 333 = .ok (.goto (-19), 3) := by decide +kernel
theorem dX8_digest_336 : decode cX8_digest 336 = .ok (.aload_n 0, 1) := by decide +kernel
theorem dX8_digest_337 : decode cX8_digest 337 = .ok (.getfield 254, 3) := by decide +kernel
theorem dX8_digest_340 : decode cX8_digest 340 = .ok (.lreturn, 1) := by decide +kernel
theorem dX8_doubt_0 : decode cX8_doubt 0 = .ok (.iload_n 1, 1) := by decide +kernel
theorem dX8_doubt_1 : decode cX8_doubt 1 = .ok (.invokestatic 160, 3) := by decide +kernel
theorem dX8_doubt_4 : decode cX8_doubt 4 = .ok (.ifCond .ne 6, 3) := by decide +kernel
theorem dX8_doubt_7 : decode cX8_doubt 7 = .ok (.bipush (-101), 2) := by decide +kernel
theorem dX8_doubt_9 : decode cX8_doubt 9 = .ok (.ireturn, 1) := by decide +kernel
theorem dX8_doubt_10 : decode cX8_doubt 10 = .ok (.iload_n 2, 1) := by decide +kernel
theorem dX8_doubt_11 : decode cX8_doubt 11 = .ok (.invokestatic 92, 3) := by decide +kernel
theorem dX8_doubt_14 : decode cX8_doubt 14 = .ok (.ifCond .eq 12, 3) := by decide +kernel
theorem dX8_doubt_17 : decode cX8_doubt 17 = .ok (.iload_n 3, 1) := by decide +kernel
theorem dX8_doubt_18 : decode cX8_doubt 18 = .ok (.iconst 0, 1) := by decide +kernel
theorem dX8_doubt_19 : decode cX8_doubt 19 = .ok (.iconst 1, 1) := by decide +kernel
theorem dX8_doubt_20 : decode cX8_doubt 20 = .ok (.invokestatic 88, 3) := by decide +kernel
theorem dX8_doubt_23 : decode cX8_doubt 23 = .ok (.ifCond .ne 6, 3) := by decide +kernel
theorem dX8_doubt_26 : decode cX8_doubt 26 = .ok (.bipush (-102), 2) := by decide +kernel
theorem dX8_doubt_28 : decode cX8_doubt 28 = .ok (.ireturn, 1) := by decide +kernel
theorem dX8_doubt_29 : decode cX8_doubt 29 = .ok (.aload_n 0, 1) := by decide +kernel
theorem dX8_doubt_30 : decode cX8_doubt 30 = .ok (.getfield 225, 3) := by decide +kernel
theorem dX8_doubt_33 : decode cX8_doubt 33 = .ok (.bipush 10, 2) := by decide +kernel
theorem dX8_doubt_35 : decode cX8_doubt 35 = .ok (.if_icmp .ne 6, 3) := by decide +kernel
theorem dX8_doubt_38 : decode cX8_doubt 38 = .ok (.bipush (-103), 2) := by decide +kernel
theorem dX8_doubt_40 : decode cX8_doubt 40 = .ok (.ireturn, 1) := by decide +kernel
theorem dX8_doubt_41 : decode cX8_doubt 41 = .ok (.aload_n 0, 1) := by decide +kernel
theorem dX8_doubt_42 : decode cX8_doubt 42 = .ok (.dup, 1) := by decide +kernel
theorem dX8_doubt_43 : decode cX8_doubt 43 = .ok (.getfield 225, 3) := by decide +kernel
theorem dX8_doubt_46 : decode cX8_doubt 46 = .ok (.iconst 1, 1) := by decide +kernel
theorem dX8_doubt_47 : decode cX8_doubt 47 = .ok (.iadd, 1) := by decide +kernel
theorem dX8_doubt_48 : decode cX8_doubt 48 = .ok (.putfield 225, 3) := by decide +kernel
theorem dX8_doubt_51 : decode cX8_doubt 51 = .ok (.aload_n 0, 1) := by decide +kernel
theorem dX8_doubt_52 : decode cX8_doubt 52 = .ok (.iload_n 1, 1) := by decide +kernel
theorem dX8_doubt_53 : decode cX8_doubt 53 = .ok (.iload_n 2, 1) := by decide +kernel
theorem dX8_doubt_54 : decode cX8_doubt 54 = .ok (.invokevirtual 219, 3) := by decide +kernel
theorem dX8_doubt_57 : decode cX8_doubt 57 = .ok (.istore 4, 2) := by decide +kernel
theorem dX8_doubt_59 : decode cX8_doubt 59 = .ok (.iconst (-1), 1) := by decide +kernel
theorem dX8_doubt_60 : decode cX8_doubt 60 = .ok (.istore 5, 2) := by decide +kernel
theorem dX8_doubt_62 : decode cX8_doubt 62 = .ok (.iconst 0, 1) := by decide +kernel
theorem dX8_doubt_63 : decode cX8_doubt 63 = .ok (.istore 6, 2) := by decide +kernel
theorem dX8_doubt_65 : decode cX8_doubt 65 = .ok (.iconst 0, 1) := by decide +kernel
theorem dX8_doubt_66 : decode cX8_doubt 66 = .ok (.istore 7, 2) := by decide +kernel
theorem dX8_doubt_68 : decode cX8_doubt 68 = .ok (.iload 7, 2) := by decide +kernel
theorem dX8_doubt_70 : decode cX8_doubt 70 = .ok (.iconst 1, 1) := by decide +kernel
theorem dX8_doubt_71 : decode cX8_doubt 71 = .ok (.aload_n 0, 1) := by decide +kernel
theorem dX8_doubt_72 : decode cX8_doubt 72 = .ok (.getfield 122, 3) := by decide +kernel
theorem dX8_doubt_75 : decode cX8_doubt 75 = .ok (.ishl, 1) := by decide +kernel
theorem dX8_doubt_76 : decode cX8_doubt 76 = .ok (.if_icmp .ge 131, 3) := by decide +kernel
theorem dX8_doubt_79 : decode cX8_doubt 79 = .ok (.iload 7, 2) := by decide +kernel
theorem dX8_doubt_81 : decode cX8_doubt 81 = .ok (.iload 4, 2) := by decide +kernel
theorem dX8_doubt_83 : decode cX8_doubt 83 = .ok (.iconst (-1), 1) := by decide +kernel
theorem dX8_doubt_84 : decode cX8_doubt 84 = .ok (.ixor, 1) := by decide +kernel
theorem dX8_doubt_85 : decode cX8_doubt 85 = .ok (.iand, 1) := by decide +kernel
theorem dX8_doubt_86 : decode cX8_doubt 86 = .ok (.ifCond .ne 26, 3) := by decide +kernel
theorem dX8_doubt_89 : decode cX8_doubt 89 = .ok (.iload 5, 2) := by decide +kernel
theorem dX8_doubt_91 : decode cX8_doubt 91 = .ok (.iconst (-1), 1) := by decide +kernel
theorem dX8_doubt_92 : decode cX8_doubt 92 = .ok (.if_icmp .eq 16, 3) := by decide +kernel
theorem dX8_doubt_95 : decode cX8_doubt 95 = .ok (.iload 7, 2) := by decide +kernel
theorem dX8_doubt_97 : decode cX8_doubt 97 = .ok (.invokestatic 228, 3) := by decide +kernel
theorem dX8_doubt_100 : decode cX8_doubt 100 = .ok (.iload 5, 2) := by decide +kernel
theorem dX8_doubt_102 : decode cX8_doubt 102 = .ok (.invokestatic 228, 3) := by decide +kernel
theorem dX8_doubt_105 : decode cX8_doubt 105 = .ok (.if_icmp .gt 7, 3) := by decide +kernel
theorem dX8_doubt_108 : decode cX8_doubt 108 = .ok (.iconst 1, 1) := by decide +kernel
theorem dX8_doubt_109 : decode cX8_doubt 109 = .ok (.goto 4, 3) := by decide +kernel
theorem dX8_doubt_112 : decode cX8_doubt 112 = .ok (.iconst 0, 1) := by decide +kernel
theorem dX8_doubt_113 : decode cX8_doubt 113 = .ok (.istore 8, 2) := by decide +kernel
theorem dX8_doubt_115 : decode cX8_doubt 115 = .ok (.iload 8, 2) := by decide +kernel
theorem dX8_doubt_117 : decode cX8_doubt 117 = .ok (.ifCond .eq 17, 3) := by decide +kernel
theorem dX8_doubt_120 : decode cX8_doubt 120 = .ok (.aload_n 0, 1) := by decide +kernel
theorem dX8_doubt_121 : decode cX8_doubt 121 = .ok (.iload_n 1, 1) := by decide +kernel
theorem dX8_doubt_122 : decode cX8_doubt 122 = .ok (.iload_n 2, 1) := by decide +kernel
theorem dX8_doubt_123 : decode cX8_doubt 123 = .ok (.iload 4, 2) := by decide +kernel
theorem dX8_doubt_125 : decode cX8_doubt 125 = .ok (.iload 7, 2) := by decide +kernel
theorem dX8_doubt_127 : decode cX8_doubt 127 = .ok (.iconst (-1), 1) := by decide +kernel
theorem dX8_doubt_128 : decode cX8_doubt 128 = .ok (.ixor, 1) := by decide +kernel
theorem dX8_doubt_129 : decode cX8_doubt 129 = .ok (.iand, 1) := by decide +kernel
theorem dX8_doubt_130 : decode cX8_doubt 130 = .ok (.iconst (-1), 1) := by decide +kernel
theorem dX8_doubt_131 : decode cX8_doubt 131 = .ok (.invokevirtual 222, 3) := by decide +kernel
theorem dX8_doubt_134 : decode cX8_doubt 134 = .ok (.iload 8, 2) := by decide +kernel
theorem dX8_doubt_136 : decode cX8_doubt 136 = .ok (.ifCond .eq 65, 3) := by decide +kernel
theorem dX8_doubt_139 : decode cX8_doubt 139 = .ok (.aload_n 0, 1) := by decide +kernel
theorem dX8_doubt_140 : decode cX8_doubt 140 = .ok (.getfield 201, 3) := by decide +kernel
theorem dX8_doubt_143 : decode cX8_doubt 143 = .ok (.ifCond .eq 58, 3) := by decide +kernel
theorem dX8_doubt_146 : decode cX8_doubt 146 = .ok (.iload 5, 2) := by decide +kernel
theorem dX8_doubt_148 : decode cX8_doubt 148 = .ok (.iconst (-1), 1) := by decide +kernel
theorem dX8_doubt_149 : decode cX8_doubt 149 = .ok (.if_icmp .eq 16, 3) := by decide +kernel
theorem dX8_doubt_152 : decode cX8_doubt 152 = .ok (.iload 7, 2) := by decide +kernel
theorem dX8_doubt_154 : decode cX8_doubt 154 = .ok (.invokestatic 228, 3) := by decide +kernel
theorem dX8_doubt_157 : decode cX8_doubt 157 = .ok (.iload 5, 2) := by decide +kernel
theorem dX8_doubt_159 : decode cX8_doubt 159 = .ok (.invokestatic 228, 3) := by decide +kernel
theorem dX8_doubt_162 : decode cX8_doubt 162 = .ok (.if_icmp .ge 7, 3) := by decide +kernel
theorem dX8_doubt_165 : decode cX8_doubt 165 = .ok (.iconst 1, 1) := by decide +kernel
theorem dX8_doubt_166 : decode cX8_doubt 166 = .ok (.goto 4, 3) := by decide +kernel
theorem dX8_doubt_169 : decode cX8_doubt 169 = .ok (.iconst 0, 1) := by decide +kernel
theorem dX8_doubt_170 : decode cX8_doubt 170 = .ok (.istore 9, 2) := by decide +kernel
theorem dX8_doubt_172 : decode cX8_doubt 172 = .ok (.iload 9, 2) := by decide +kernel
theorem dX8_doubt_174 : decode cX8_doubt 174 = .ok (.ifCond .eq 7, 3) := by decide +kernel
theorem dX8_doubt_177 : decode cX8_doubt 177 = .ok (.iconst 0, 1) := by decide +kernel
theorem dX8_doubt_178 : decode cX8_doubt 178 = .ok (.goto 7, 3) := by decide +kernel
theorem dX8_doubt_181 : decode cX8_doubt 181 = .ok (.iload 6, 2) := by decide +kernel
theorem dX8_doubt_183 : decode cX8_doubt 183 = .ok (.iconst 1, 1) := by decide +kernel
theorem dX8_doubt_184 : decode cX8_doubt 184 = .ok (.iadd, 1) := by decide +kernel
theorem dX8_doubt_185 : decode cX8_doubt 185 = .ok (.istore 6, 2) := by decide +kernel
theorem dX8_doubt_187 : decode cX8_doubt 187 = .ok (.iload 9, 2) := by decide +kernel
theorem dX8_doubt_189 : decode cX8_doubt 189 = .ok (.ifCond .eq 8, 3) := by decide +kernel
theorem dX8_doubt_192 : decode cX8_doubt 192 = .ok (.iload 7, 2) := by decide +kernel
theorem dX8_doubt_194 : decode cX8_doubt 194 = .ok (.goto 5, 3) := by decide +kernel
theorem dX8_doubt_197 : decode cX8_doubt 197 = .ok (.iload 5, 2) := by decide +kernel
theorem dX8_doubt_199 : decode cX8_doubt 199 = .ok (.istore 5, 2) := by decide +kernel
theorem dX8_doubt_201 : decode cX8_doubt 201 = .ok (.iinc 7 1, 3) := by decide +kernel
theorem dX8_doubt_204 : decode cX8_doubt 204 = .ok (.goto (-136), 3) := by decide +kernel
theorem dX8_doubt_207 : decode cX8_doubt 207 = .ok (.iload 5, 2) := by decide +kernel
theorem dX8_doubt_209 : decode cX8_doubt 209 = .ok (.iconst (-1), 1) := by decide +kernel
theorem dX8_doubt_210 : decode cX8_doubt 210 = .ok (.if_icmp .eq 7, 3) := by decide +kernel
theorem dX8_doubt_213 : decode cX8_doubt 213 = .ok (.iload_n 3, 1) := by decide +kernel
theorem dX8_doubt_214 : decode cX8_doubt 214 = .ok (.ifCond .ne 8, 3) := by decide +kernel
theorem dX8_doubt_217 : decode cX8_doubt 217 = .ok (.iload 5, 2) := by decide +kernel
theorem dX8_doubt_219 : decode cX8_doubt 219 = .ok (.goto 5, 3) := by decide +kernel
theorem dX8_doubt_222 : decode cX8_doubt 222 = .ok (.iload 6, 2) := by decide +kernel
theorem dX8_doubt_224 : decode cX8_doubt 224 = .ok (.ireturn, 1) := by decide +kernel
theorem dX8_factor_0 : decode cX8_factor 0 = .ok (.aload_n 0, 1) := by decide +kernel
theorem dX8_factor_1 : decode cX8_factor 1 = .ok (.getfield 60, 3) := by decide +kernel
theorem dX8_factor_4 : decode cX8_factor 4 = .ok (.aload_n 0, 1) := by decide +kernel
theorem dX8_factor_5 : decode cX8_factor 5 = .ok (.getfield 163, 3) := by decide +kernel
theorem dX8_factor_8 : decode cX8_factor 8 = .ok (.aload_n 0, 1) := by decide +kernel
theorem dX8_factor_9 : decode cX8_factor 9 = .ok (.getfield 60, 3) := by decide +kernel
theorem dX8_factor_12 : decode cX8_factor 12 = .ok (.aload_n 0, 1) := by decide +kernel
theorem dX8_factor_13 : decode cX8_factor 13 = .ok (.getfield 163, 3) := by decide +kernel
theorem dX8_factor_16 : decode cX8_factor 16 = .ok (.baload, 1) := by decide +kernel
theorem dX8_factor_17 : decode cX8_factor 17 = .ok (.ifCond .eq 20, 3) := by decide +kernel
theorem dX8_factor_20 : decode cX8_factor 20 = .ok (.iload_n 1, 1) := by decide +kernel
theorem dX8_factor_21 : decode cX8_factor 21 = .ok (.aload_n 0, 1) := by decide +kernel
theorem dX8_factor_22 : decode cX8_factor 22 = .ok (.getfield 63, 3) := by decide +kernel
theorem dX8_factor_25 : decode cX8_factor 25 = .ok (.aload_n 0, 1) := by decide +kernel
theorem dX8_factor_26 : decode cX8_factor 26 = .ok (.getfield 163, 3) := by decide +kernel
theorem dX8_factor_29 : decode cX8_factor 29 = .ok (.baload, 1) := by decide +kernel
theorem dX8_factor_30 : decode cX8_factor 30 = .ok (.if_icmp .eq 7, 3) := by decide +kernel
theorem dX8_factor_33 : decode cX8_factor 33 = .ok (.iconst 1, 1) := by decide +kernel
theorem dX8_factor_34 : decode cX8_factor 34 = .ok (.goto 4, 3) := by decide +kernel
theorem dX8_factor_37 : decode cX8_factor 37 = .ok (.iconst 0, 1) := by decide +kernel
theorem dX8_factor_38 : decode cX8_factor 38 = .ok (.bastore, 1) := by decide +kernel
theorem dX8_factor_39 : decode cX8_factor 39 = .ok (.aload_n 0, 1) := by decide +kernel
theorem dX8_factor_40 : decode cX8_factor 40 = .ok (.getfield 63, 3) := by decide +kernel
theorem dX8_factor_43 : decode cX8_factor 43 = .ok (.aload_n 0, 1) := by decide +kernel
theorem dX8_factor_44 : decode cX8_factor 44 = .ok (.getfield 163, 3) := by decide +kernel
theorem dX8_factor_47 : decode cX8_factor 47 = .ok (.iconst 0, 1) := by decide +kernel
theorem dX8_factor_48 : decode cX8_factor 48 = .ok (.bastore, 1) := by decide +kernel
theorem dX8_factor_49 : decode cX8_factor 49 = .ok (.return_, 1) := by decide +kernel
theorem dX8_fault_0 : decode cX8_fault 0 = .ok (.aload_n 0, 1) := by decide +kernel
theorem dX8_fault_1 : decode cX8_fault 1 = .ok (.invokevirtual 157, 3) := by decide +kernel
theorem dX8_fault_4 : decode cX8_fault 4 = .ok (.aload_n 0, 1) := by decide +kernel
theorem dX8_fault_5 : decode cX8_fault 5 = .ok (.getfield 150, 3) := by decide +kernel
theorem dX8_fault_8 : decode cX8_fault 8 = .ok (.ireturn, 1) := by decide +kernel
theorem dX8_floats_0 : decode cX8_floats 0 = .ok (.iload_n 1, 1) := by decide +kernel
theorem dX8_floats_1 : decode cX8_floats 1 = .ok (.invokestatic 160, 3) := by decide +kernel
theorem dX8_floats_4 : decode cX8_floats 4 = .ok (.ifCond .ne 8, 3) := by decide +kernel
theorem dX8_floats_7 : decode cX8_floats 7 = .ok (.bipush (-101), 2) := by decide +kernel
theorem dX8_floats_9 : decode cX8_floats 9 = .ok (.goto 21, 3) := by decide +kernel
theorem dX8_floats_12 : decode cX8_floats 12 = .ok (.iload_n 2, 1) := by decide +kernel
theorem dX8_floats_13 : decode cX8_floats 13 = .ok (.invokestatic 92, 3) := by decide +kernel
theorem dX8_floats_16 : decode cX8_floats 16 = .ok (.ifCond .eq 12, 3) := by decide +kernel
theorem dX8_floats_19 : decode cX8_floats 19 = .ok (.aload_n 0, 1) := by decide +kernel
theorem dX8_floats_20 : decode cX8_floats 20 = .ok (.iload_n 1, 1) := by decide +kernel
theorem dX8_floats_21 : decode cX8_floats 21 = .ok (.iload_n 2, 1) := by decide +kernel
theorem dX8_floats_22 : decode cX8_floats 22 = .ok (.invokevirtual 231, 3) := by decide +kernel
theorem dX8_floats_25 : decode cX8_floats 25 = .ok (.goto 5, 3) := by decide +kernel
theorem dX8_floats_28 : decode cX8_floats 28 = .ok (.bipush (-102), 2) := by decide +kernel
theorem dX8_floats_30 : decode cX8_floats 30 = .ok (.ireturn, 1) := by decide +kernel
theorem dX8_floatsOf_0 : decode cX8_floatsOf 0 = .ok (.aload_n 0, 1) := by decide +kernel
theorem dX8_floatsOf_1 : decode cX8_floatsOf 1 = .ok (.iload_n 1, 1) := by decide +kernel
theorem dX8_floatsOf_2 : decode cX8_floatsOf 2 = .ok (.iload_n 2, 1) := by decide +kernel
theorem dX8_floatsOf_3 : decode cX8_floatsOf 3 = .ok (.invokevirtual 219, 3) := by decide +kernel
theorem dX8_floatsOf_6 : decode cX8_floatsOf 6 = .ok (.istore_n 3, 1) := by decide +kernel
theorem dX8_floatsOf_7 : decode cX8_floatsOf 7 = .ok (.iconst 0, 1) := by decide +kernel
theorem dX8_floatsOf_8 : decode cX8_floatsOf 8 = .ok (.istore 4, 2) := by decide +kernel
theorem dX8_floatsOf_10 : decode cX8_floatsOf 10 = .ok (.iconst 0, 1) := by decide +kernel
theorem dX8_floatsOf_11 : decode cX8_floatsOf 11 = .ok (.istore 5, 2) := by decide +kernel
theorem dX8_floatsOf_13 : decode cX8_floatsOf 13 = .ok (.iload 5, 2) := by decide +kernel
theorem dX8_floatsOf_15 : decode cX8_floatsOf 15 = .ok (.aload_n 0, 1) := by decide +kernel
theorem dX8_floatsOf_16 : decode cX8_floatsOf 16 = .ok (.getfield 122, 3) := by decide +kernel
theorem dX8_floatsOf_19 : decode cX8_floatsOf 19 = .ok (.if_icmp .ge 82, 3) := by decide +kernel
theorem dX8_floatsOf_22 : decode cX8_floatsOf 22 = .ok (.iload_n 3, 1) := by decide +kernel
theorem dX8_floatsOf_23 : decode cX8_floatsOf 23 = .ok (.iload 5, 2) := by decide +kernel
theorem dX8_floatsOf_25 : decode cX8_floatsOf 25 = .ok (.ishr, 1) := by decide +kernel
theorem dX8_floatsOf_26 : decode cX8_floatsOf 26 = .ok (.iconst 1, 1) := by decide +kernel
theorem dX8_floatsOf_27 : decode cX8_floatsOf 27 = .ok (.iand, 1) := by decide +kernel
theorem dX8_floatsOf_28 : decode cX8_floatsOf 28 = .ok (.iconst 1, 1) := by decide +kernel
theorem dX8_floatsOf_29 : decode cX8_floatsOf 29 = .ok (.if_icmp .ne 35, 3) := by decide +kernel
theorem dX8_floatsOf_32 : decode cX8_floatsOf 32 = .ok (.aload_n 0, 1) := by decide +kernel
theorem dX8_floatsOf_33 : decode cX8_floatsOf 33 = .ok (.getfield 31, 3) := by decide +kernel
theorem dX8_floatsOf_36 : decode cX8_floatsOf 36 = .ok (.bipush 7, 2) := by decide +kernel
theorem dX8_floatsOf_38 : decode cX8_floatsOf 38 = .ok (.iload 5, 2) := by decide +kernel
theorem dX8_floatsOf_40 : decode cX8_floatsOf 40 = .ok (.imul, 1) := by decide +kernel
theorem dX8_floatsOf_41 : decode cX8_floatsOf 41 = .ok (.iaload, 1) := by decide +kernel
theorem dX8_floatsOf_42 : decode cX8_floatsOf 42 = .ok (.iconst 1, 1) := by decide +kernel
theorem dX8_floatsOf_43 : decode cX8_floatsOf 43 = .ok (.if_icmp .eq 17, 3) := by decide +kernel
theorem dX8_floatsOf_46 : decode cX8_floatsOf 46 = .ok (.aload_n 0, 1) := by decide +kernel
theorem dX8_floatsOf_47 : decode cX8_floatsOf 47 = .ok (.getfield 31, 3) := by decide +kernel
theorem dX8_floatsOf_50 : decode cX8_floatsOf 50 = .ok (.bipush 7, 2) := by decide +kernel
theorem dX8_floatsOf_52 : decode cX8_floatsOf 52 = .ok (.iload 5, 2) := by decide +kernel
theorem dX8_floatsOf_54 : decode cX8_floatsOf 54 = .ok (.imul, 1) := by decide +kernel
theorem dX8_floatsOf_55 : decode cX8_floatsOf 55 = .ok (.iaload, 1) := by decide +kernel
theorem dX8_floatsOf_56 : decode cX8_floatsOf 56 = .ok (.iconst 2, 1) := by decide +kernel
theorem dX8_floatsOf_57 : decode cX8_floatsOf 57 = .ok (.if_icmp .ne 7, 3) := by decide +kernel
theorem dX8_floatsOf_60 : decode cX8_floatsOf 60 = .ok (.iconst 1, 1) := by decide +kernel
theorem dX8_floatsOf_61 : decode cX8_floatsOf 61 = .ok (.goto 4, 3) := by decide +kernel
theorem dX8_floatsOf_64 : decode cX8_floatsOf 64 = .ok (.iconst 0, 1) := by decide +kernel
theorem dX8_floatsOf_65 : decode cX8_floatsOf 65 = .ok (.istore 6, 2) := by decide +kernel
theorem dX8_floatsOf_67 : decode cX8_floatsOf 67 = .ok (.iload 4, 2) := by decide +kernel
theorem dX8_floatsOf_69 : decode cX8_floatsOf 69 = .ok (.iload 6, 2) := by decide +kernel
theorem dX8_floatsOf_71 : decode cX8_floatsOf 71 = .ok (.ifCond .eq 20, 3) := by decide +kernel
theorem dX8_floatsOf_74 : decode cX8_floatsOf 74 = .ok (.iconst 1, 1) := by decide +kernel
theorem dX8_floatsOf_75 : decode cX8_floatsOf 75 = .ok (.aload_n 0, 1) := by decide +kernel
theorem dX8_floatsOf_76 : decode cX8_floatsOf 76 = .ok (.getfield 31, 3) := by decide +kernel
theorem dX8_floatsOf_79 : decode cX8_floatsOf 79 = .ok (.bipush 7, 2) := by decide +kernel
theorem dX8_floatsOf_81 : decode cX8_floatsOf 81 = .ok (.iload 5, 2) := by decide +kernel
theorem dX8_floatsOf_83 : decode cX8_floatsOf 83 = .ok (.imul, 1) := by decide +kernel
theorem dX8_floatsOf_84 : decode cX8_floatsOf 84 = .ok (.iconst 1, 1) := by decide +kernel
theorem dX8_floatsOf_85 : decode cX8_floatsOf 85 = .ok (.iadd, 1) := by decide +kernel
theorem dX8_floatsOf_86 : decode cX8_floatsOf 86 = .ok (.iaload, 1) := by decide +kernel
theorem dX8_floatsOf_87 : decode cX8_floatsOf 87 = .ok (.ishl, 1) := by decide +kernel
theorem dX8_floatsOf_88 : decode cX8_floatsOf 88 = .ok (.goto 4, 3) := by decide +kernel
theorem dX8_floatsOf_91 : decode cX8_floatsOf 91 = .ok (.iconst 0, 1) := by decide +kernel
theorem dX8_floatsOf_92 : decode cX8_floatsOf 92 = .ok (.ior, 1) := by decide +kernel
theorem dX8_floatsOf_93 : decode cX8_floatsOf 93 = .ok (.istore 4, 2) := by decide +kernel
theorem dX8_floatsOf_95 : decode cX8_floatsOf 95 = .ok (.iinc 5 1, 3) := by decide +kernel
theorem dX8_floatsOf_98 : decode cX8_floatsOf 98 = .ok (.goto (-85), 3) := by decide +kernel
theorem dX8_floatsOf_101 : decode cX8_floatsOf 101 = .ok (.iconst (-1), 1) := by decide +kernel
theorem dX8_floatsOf_102 : decode cX8_floatsOf 102 = .ok (.istore 5, 2) := by decide +kernel
theorem dX8_floatsOf_104 : decode cX8_floatsOf 104 = .ok (.iload 5, 2) := by decide +kernel
theorem dX8_floatsOf_106 : decode cX8_floatsOf 106 = .ok (.iload 4, 2) := by decide +kernel
theorem dX8_floatsOf_108 : decode cX8_floatsOf 108 = .ok (.if_icmp .eq 177, 3) := by decide +kernel
theorem dX8_floatsOf_111 : decode cX8_floatsOf 111 = .ok (.iload 4, 2) := by decide +kernel
theorem dX8_floatsOf_113 : decode cX8_floatsOf 113 = .ok (.istore 5, 2) := by decide +kernel
theorem dX8_floatsOf_115 : decode cX8_floatsOf 115 = .ok (.iconst 0, 1) := by decide +kernel
theorem dX8_floatsOf_116 : decode cX8_floatsOf 116 = .ok (.istore 6, 2) := by decide +kernel
theorem dX8_floatsOf_118 : decode cX8_floatsOf 118 = .ok (.iload 6, 2) := by decide +kernel
theorem dX8_floatsOf_120 : decode cX8_floatsOf 120 = .ok (.aload_n 0, 1) := by decide +kernel
theorem dX8_floatsOf_121 : decode cX8_floatsOf 121 = .ok (.getfield 84, 3) := by decide +kernel
theorem dX8_floatsOf_124 : decode cX8_floatsOf 124 = .ok (.if_icmp .ge 65, 3) := by decide +kernel
theorem dX8_floatsOf_127 : decode cX8_floatsOf 127 = .ok (.aload_n 0, 1) := by decide +kernel
theorem dX8_floatsOf_128 : decode cX8_floatsOf 128 = .ok (.getfield 25, 3) := by decide +kernel
theorem dX8_floatsOf_131 : decode cX8_floatsOf 131 = .ok (.iload 6, 2) := by decide +kernel
theorem dX8_floatsOf_133 : decode cX8_floatsOf 133 = .ok (.iaload, 1) := by decide +kernel
theorem dX8_floatsOf_134 : decode cX8_floatsOf 134 = .ok (.istore 7, 2) := by decide +kernel
theorem dX8_floatsOf_136 : decode cX8_floatsOf 136 = .ok (.iload 7, 2) := by decide +kernel
theorem dX8_floatsOf_138 : decode cX8_floatsOf 138 = .ok (.iconst (-1), 1) := by decide +kernel
theorem dX8_floatsOf_139 : decode cX8_floatsOf 139 = .ok (.if_icmp .eq 44, 3) := by decide +kernel
theorem dX8_floatsOf_142 : decode cX8_floatsOf 142 = .ok (.aload_n 0, 1) := by decide +kernel
theorem dX8_floatsOf_143 : decode cX8_floatsOf 143 = .ok (.iload 6, 2) := by decide +kernel
theorem dX8_floatsOf_145 : decode cX8_floatsOf 145 = .ok (.iload_n 2, 1) := by decide +kernel
theorem dX8_floatsOf_146 : decode cX8_floatsOf 146 = .ok (.invokevirtual 188, 3) := by decide +kernel
theorem dX8_floatsOf_149 : decode cX8_floatsOf 149 = .ok (.ifCond .eq 34, 3) := by decide +kernel
theorem dX8_floatsOf_152 : decode cX8_floatsOf 152 = .ok (.iload 4, 2) := by decide +kernel
theorem dX8_floatsOf_154 : decode cX8_floatsOf 154 = .ok (.iload 6, 2) := by decide +kernel
theorem dX8_floatsOf_156 : decode cX8_floatsOf 156 = .ok (.ishr, 1) := by decide +kernel
theorem dX8_floatsOf_157 : decode cX8_floatsOf 157 = .ok (.iconst 1, 1) := by decide +kernel
theorem dX8_floatsOf_158 : decode cX8_floatsOf 158 = .ok (.iand, 1) := by decide +kernel
theorem dX8_floatsOf_159 : decode cX8_floatsOf 159 = .ok (.iload 4, 2) := by decide +kernel
theorem dX8_floatsOf_161 : decode cX8_floatsOf 161 = .ok (.iload 7, 2) := by decide +kernel
theorem dX8_floatsOf_163 : decode cX8_floatsOf 163 = .ok (.ishr, 1) := by decide +kernel
theorem dX8_floatsOf_164 : decode cX8_floatsOf 164 = .ok (.iconst 1, 1) := by decide +kernel
theorem dX8_floatsOf_165 : decode cX8_floatsOf 165 = .ok (.iand, 1) := by decide +kernel
theorem dX8_floatsOf_166 : decode cX8_floatsOf 166 = .ok (.if_icmp .eq 17, 3) := by decide +kernel
theorem dX8_floatsOf_169 : decode cX8_floatsOf 169 = .ok (.iload 4, 2) := by decide +kernel
theorem dX8_floatsOf_171 : decode cX8_floatsOf 171 = .ok (.iconst 1, 1) := by decide +kernel
theorem dX8_floatsOf_172 : decode cX8_floatsOf 172 = .ok (.iload 6, 2) := by decide +kernel
theorem dX8_floatsOf_174 : decode cX8_floatsOf 174 = .ok (.ishl, 1) := by decide +kernel
theorem dX8_floatsOf_175 : decode cX8_floatsOf 175 = .ok (.iconst 1, 1) := by decide +kernel
theorem dX8_floatsOf_176 : decode cX8_floatsOf 176 = .ok (.iload 7, 2) := by decide +kernel
theorem dX8_floatsOf_178 : decode cX8_floatsOf 178 = .ok (.ishl, 1) := by decide +kernel
theorem dX8_floatsOf_179 : decode cX8_floatsOf 179 = .ok (.ior, 1) := by decide +kernel
theorem dX8_floatsOf_180 : decode cX8_floatsOf 180 = .ok (.ior, 1) := by decide +kernel
theorem dX8_floatsOf_181 : decode cX8_floatsOf 181 = .ok (.istore 4, 2) := by decide +kernel
theorem dX8_floatsOf_183 : decode cX8_floatsOf 183 = .ok (.iinc 6 1, 3) := by decide +kernel
theorem dX8_floatsOf_186 : decode cX8_floatsOf 186 = .ok (.goto (-68), 3) := by decide +kernel
theorem dX8_floatsOf_189 : decode cX8_floatsOf 189 = .ok (.iconst 0, 1) := by decide +kernel
theorem dX8_floatsOf_190 : decode cX8_floatsOf 190 = .ok (.istore 6, 2) := by decide +kernel
theorem dX8_floatsOf_192 : decode cX8_floatsOf 192 = .ok (.iload 6, 2) := by decide +kernel
theorem dX8_floatsOf_194 : decode cX8_floatsOf 194 = .ok (.aload_n 0, 1) := by decide +kernel
theorem dX8_floatsOf_195 : decode cX8_floatsOf 195 = .ok (.getfield 122, 3) := by decide +kernel
theorem dX8_floatsOf_198 : decode cX8_floatsOf 198 = .ok (.if_icmp .ge 84, 3) := by decide +kernel
theorem dX8_floatsOf_201 : decode cX8_floatsOf 201 = .ok (.aload_n 0, 1) := by decide +kernel
theorem dX8_floatsOf_202 : decode cX8_floatsOf 202 = .ok (.getfield 31, 3) := by decide +kernel
theorem dX8_floatsOf_205 : decode cX8_floatsOf 205 = .ok (.bipush 7, 2) := by decide +kernel
theorem dX8_floatsOf_207 : decode cX8_floatsOf 207 = .ok (.iload 6, 2) := by decide +kernel
theorem dX8_floatsOf_209 : decode cX8_floatsOf 209 = .ok (.imul, 1) := by decide +kernel
theorem dX8_floatsOf_210 : decode cX8_floatsOf 210 = .ok (.iconst 1, 1) := by decide +kernel
theorem dX8_floatsOf_211 : decode cX8_floatsOf 211 = .ok (.iadd, 1) := by decide +kernel
theorem dX8_floatsOf_212 : decode cX8_floatsOf 212 = .ok (.iaload, 1) := by decide +kernel
theorem dX8_floatsOf_213 : decode cX8_floatsOf 213 = .ok (.istore 7, 2) := by decide +kernel
theorem dX8_floatsOf_215 : decode cX8_floatsOf 215 = .ok (.aload_n 0, 1) := by decide +kernel
theorem dX8_floatsOf_216 : decode cX8_floatsOf 216 = .ok (.getfield 31, 3) := by decide +kernel
theorem dX8_floatsOf_219 : decode cX8_floatsOf 219 = .ok (.bipush 7, 2) := by decide +kernel
theorem dX8_floatsOf_221 : decode cX8_floatsOf 221 = .ok (.iload 6, 2) := by decide +kernel
theorem dX8_floatsOf_223 : decode cX8_floatsOf 223 = .ok (.imul, 1) := by decide +kernel
theorem dX8_floatsOf_224 : decode cX8_floatsOf 224 = .ok (.iconst 3, 1) := by decide +kernel
theorem dX8_floatsOf_225 : decode cX8_floatsOf 225 = .ok (.iadd, 1) := by decide +kernel
theorem dX8_floatsOf_226 : decode cX8_floatsOf 226 = .ok (.iaload, 1) := by decide +kernel
theorem dX8_floatsOf_227 : decode cX8_floatsOf 227 = .ok (.istore 8, 2) := by decide +kernel
theorem dX8_floatsOf_229 : decode cX8_floatsOf 229 = .ok (.iload_n 3, 1) := by decide +kernel
theorem dX8_floatsOf_230 : decode cX8_floatsOf 230 = .ok (.iload 6, 2) := by decide +kernel
theorem dX8_floatsOf_232 : decode cX8_floatsOf 232 = .ok (.ishr, 1) := by decide +kernel
theorem dX8_floatsOf_233 : decode cX8_floatsOf 233 = .ok (.iconst 1, 1) := by decide +kernel
theorem dX8_floatsOf_234 : decode cX8_floatsOf 234 = .ok (.iand, 1) := by decide +kernel
theorem dX8_floatsOf_235 : decode cX8_floatsOf 235 = .ok (.iconst 1, 1) := by decide +kernel
theorem dX8_floatsOf_236 : decode cX8_floatsOf 236 = .ok (.if_icmp .ne 40, 3) := by decide +kernel
theorem dX8_floatsOf_239 : decode cX8_floatsOf 239 = .ok (.iload 8, 2) := by decide +kernel
theorem dX8_floatsOf_241 : decode cX8_floatsOf 241 = .ok (.iconst (-1), 1) := by decide +kernel
theorem dX8_floatsOf_242 : decode cX8_floatsOf 242 = .ok (.if_icmp .eq 34, 3) := by decide +kernel
theorem dX8_floatsOf_245 : decode cX8_floatsOf 245 = .ok (.iload 4, 2) := by decide +kernel
theorem dX8_floatsOf_247 : decode cX8_floatsOf 247 = .ok (.iload 7, 2) := by decide +kernel
theorem dX8_floatsOf_249 : decode cX8_floatsOf 249 = .ok (.ishr, 1) := by decide +kernel
theorem dX8_floatsOf_250 : decode cX8_floatsOf 250 = .ok (.iconst 1, 1) := by decide +kernel
theorem dX8_floatsOf_251 : decode cX8_floatsOf 251 = .ok (.iand, 1) := by decide +kernel
theorem dX8_floatsOf_252 : decode cX8_floatsOf 252 = .ok (.iload 4, 2) := by decide +kernel
theorem dX8_floatsOf_254 : decode cX8_floatsOf 254 = .ok (.iload 8, 2) := by decide +kernel
theorem dX8_floatsOf_256 : decode cX8_floatsOf 256 = .ok (.ishr, 1) := by decide +kernel
theorem dX8_floatsOf_257 : decode cX8_floatsOf 257 = .ok (.iconst 1, 1) := by decide +kernel
theorem dX8_floatsOf_258 : decode cX8_floatsOf 258 = .ok (.iand, 1) := by decide +kernel
theorem dX8_floatsOf_259 : decode cX8_floatsOf 259 = .ok (.if_icmp .eq 17, 3) := by decide +kernel
theorem dX8_floatsOf_262 : decode cX8_floatsOf 262 = .ok (.iload 4, 2) := by decide +kernel
theorem dX8_floatsOf_264 : decode cX8_floatsOf 264 = .ok (.iconst 1, 1) := by decide +kernel
theorem dX8_floatsOf_265 : decode cX8_floatsOf 265 = .ok (.iload 7, 2) := by decide +kernel
theorem dX8_floatsOf_267 : decode cX8_floatsOf 267 = .ok (.ishl, 1) := by decide +kernel
theorem dX8_floatsOf_268 : decode cX8_floatsOf 268 = .ok (.iconst 1, 1) := by decide +kernel
theorem dX8_floatsOf_269 : decode cX8_floatsOf 269 = .ok (.iload 8, 2) := by decide +kernel
theorem dX8_floatsOf_271 : decode cX8_floatsOf 271 = .ok (.ishl, 1) := by decide +kernel
theorem dX8_floatsOf_272 : decode cX8_floatsOf 272 = .ok (.ior, 1) := by decide +kernel
theorem dX8_floatsOf_273 : decode cX8_floatsOf 273 = .ok (.ior, 1) := by decide +kernel
theorem dX8_floatsOf_274 : decode cX8_floatsOf 274 = .ok (.istore 4, 2) := by decide +kernel
theorem dX8_floatsOf_276 : decode cX8_floatsOf 276 = .ok (.iinc 6 1, 3) := by decide +kernel
theorem dX8_floatsOf_279 : decode cX8_floatsOf 279 = .ok (.goto (-87), 3) := by decide +kernel
theorem dX8_floatsOf_282 : decode cX8_floatsOf 282 = .ok (.goto (-178), 3) := by decide +kernel
theorem dX8_floatsOf_285 : decode cX8_floatsOf 285 = .ok (.iconst 0, 1) := by decide +kernel
theorem dX8_floatsOf_286 : decode cX8_floatsOf 286 = .ok (.istore 6, 2) := by decide +kernel
theorem dX8_floatsOf_288 : decode cX8_floatsOf 288 = .ok (.iconst 0, 1) := by decide +kernel
theorem dX8_floatsOf_289 : decode cX8_floatsOf 289 = .ok (.istore 7, 2) := by decide +kernel
theorem dX8_floatsOf_291 : decode cX8_floatsOf 291 = .ok (.iload 7, 2) := by decide +kernel
theorem dX8_floatsOf_293 : decode cX8_floatsOf 293 = .ok (.aload_n 0, 1) := by decide +kernel
theorem dX8_floatsOf_294 : decode cX8_floatsOf 294 = .ok (.getfield 84, 3) := by decide +kernel
theorem dX8_floatsOf_297 : decode cX8_floatsOf 297 = .ok (.if_icmp .ge 42, 3) := by decide +kernel
theorem dX8_floatsOf_300 : decode cX8_floatsOf 300 = .ok (.iload 6, 2) := by decide +kernel
theorem dX8_floatsOf_302 : decode cX8_floatsOf 302 = .ok (.aload_n 0, 1) := by decide +kernel
theorem dX8_floatsOf_303 : decode cX8_floatsOf 303 = .ok (.iload 7, 2) := by decide +kernel
theorem dX8_floatsOf_305 : decode cX8_floatsOf 305 = .ok (.iload_n 2, 1) := by decide +kernel
theorem dX8_floatsOf_306 : decode cX8_floatsOf 306 = .ok (.invokevirtual 188, 3) := by decide +kernel
theorem dX8_floatsOf_309 : decode cX8_floatsOf 309 = .ok (.ifCond .eq 20, 3) := by decide +kernel
theorem dX8_floatsOf_312 : decode cX8_floatsOf 312 = .ok (.iload 4, 2) := by decide +kernel
theorem dX8_floatsOf_314 : decode cX8_floatsOf 314 = .ok (.iload 7, 2) := by decide +kernel
theorem dX8_floatsOf_316 : decode cX8_floatsOf 316 = .ok (.ishr, 1) := by decide +kernel
theorem dX8_floatsOf_317 : decode cX8_floatsOf 317 = .ok (.iconst 1, 1) := by decide +kernel
theorem dX8_floatsOf_318 : decode cX8_floatsOf 318 = .ok (.iand, 1) := by decide +kernel
theorem dX8_floatsOf_319 : decode cX8_floatsOf 319 = .ok (.ifCond .ne 10, 3) := by decide +kernel
theorem dX8_floatsOf_322 : decode cX8_floatsOf 322 = .ok (.iconst 1, 1) := by decide +kernel
theorem dX8_floatsOf_323 : decode cX8_floatsOf 323 = .ok (.iload 7, 2) := by decide +kernel
theorem dX8_floatsOf_325 : decode cX8_floatsOf 325 = .ok (.ishl, 1) := by decide +kernel
theorem dX8_floatsOf_326 : decode cX8_floatsOf 326 = .ok (.goto 4, 3) := by decide +kernel
theorem dX8_floatsOf_329 : decode cX8_floatsOf 329 = .ok (.iconst 0, 1) := by decide +kernel
theorem dX8_floatsOf_330 : decode cX8_floatsOf 330 = .ok (.ior, 1) := by decide +kernel
theorem dX8_floatsOf_331 : decode cX8_floatsOf 331 = .ok (.istore 6, 2) := by decide +kernel
theorem dX8_floatsOf_333 : decode cX8_floatsOf 333 = .ok (.iinc 7 1, 3) := by decide +kernel
theorem dX8_floatsOf_336 : decode cX8_floatsOf 336 = .ok (.goto (-45), 3) := by decide +kernel
theorem dX8_floatsOf_339 : decode cX8_floatsOf 339 = .ok (.iload 6, 2) := by decide +kernel
theorem dX8_floatsOf_341 : decode cX8_floatsOf 341 = .ok (.ireturn, 1) := by decide +kernel
theorem dX8_held_0 : decode cX8_held 0 = .ok (.iload_n 1, 1) := by decide +kernel
theorem dX8_held_1 : decode cX8_held 1 = .ok (.invokestatic 160, 3) := by decide +kernel
theorem dX8_held_4 : decode cX8_held 4 = .ok (.ifCond .ne 6, 3) := by decide +kernel
theorem dX8_held_7 : decode cX8_held 7 = .ok (.bipush (-101), 2) := by decide +kernel
theorem dX8_held_9 : decode cX8_held 9 = .ok (.ireturn, 1) := by decide +kernel
theorem dX8_held_10 : decode cX8_held 10 = .ok (.iload_n 2, 1) := by decide +kernel
theorem dX8_held_11 : decode cX8_held 11 = .ok (.invokestatic 92, 3) := by decide +kernel
theorem dX8_held_14 : decode cX8_held 14 = .ok (.ifCond .ne 6, 3) := by decide +kernel
theorem dX8_held_17 : decode cX8_held 17 = .ok (.bipush (-102), 2) := by decide +kernel
theorem dX8_held_19 : decode cX8_held 19 = .ok (.ireturn, 1) := by decide +kernel
theorem dX8_held_20 : decode cX8_held 20 = .ok (.aload_n 0, 1) := by decide +kernel
theorem dX8_held_21 : decode cX8_held 21 = .ok (.iload_n 3, 1) := by decide +kernel
theorem dX8_held_22 : decode cX8_held 22 = .ok (.invokevirtual 103, 3) := by decide +kernel
theorem dX8_held_25 : decode cX8_held 25 = .ok (.ifCond .ne 6, 3) := by decide +kernel
theorem dX8_held_28 : decode cX8_held 28 = .ok (.bipush (-101), 2) := by decide +kernel
theorem dX8_held_30 : decode cX8_held 30 = .ok (.ireturn, 1) := by decide +kernel
theorem dX8_held_31 : decode cX8_held 31 = .ok (.iload 4, 2) := by decide +kernel
theorem dX8_held_33 : decode cX8_held 33 = .ok (.iconst 0, 1) := by decide +kernel
theorem dX8_held_34 : decode cX8_held 34 = .ok (.iconst 1, 1) := by decide +kernel
theorem dX8_held_35 : decode cX8_held 35 = .ok (.invokestatic 88, 3) := by decide +kernel
theorem dX8_held_38 : decode cX8_held 38 = .ok (.ifCond .ne 6, 3) := by decide +kernel
theorem dX8_held_41 : decode cX8_held 41 = .ok (.bipush (-102), 2) := by decide +kernel
theorem dX8_held_43 : decode cX8_held 43 = .ok (.ireturn, 1) := by decide +kernel
theorem dX8_held_44 : decode cX8_held 44 = .ok (.aload_n 0, 1) := by decide +kernel
theorem dX8_held_45 : decode cX8_held 45 = .ok (.iload_n 1, 1) := by decide +kernel
theorem dX8_held_46 : decode cX8_held 46 = .ok (.iload_n 2, 1) := by decide +kernel
theorem dX8_held_47 : decode cX8_held 47 = .ok (.invokevirtual 219, 3) := by decide +kernel
theorem dX8_held_50 : decode cX8_held 50 = .ok (.istore 5, 2) := by decide +kernel
theorem dX8_held_52 : decode cX8_held 52 = .ok (.aload_n 0, 1) := by decide +kernel
theorem dX8_held_53 : decode cX8_held 53 = .ok (.iload_n 1, 1) := by decide +kernel
theorem dX8_held_54 : decode cX8_held 54 = .ok (.iload_n 2, 1) := by decide +kernel
theorem dX8_held_55 : decode cX8_held 55 = .ok (.iload 5, 2) := by decide +kernel
theorem dX8_held_57 : decode cX8_held 57 = .ok (.iconst (-1), 1) := by decide +kernel
theorem dX8_held_58 : decode cX8_held 58 = .ok (.invokevirtual 222, 3) := by decide +kernel
theorem dX8_held_61 : decode cX8_held 61 = .ok (.aload_n 0, 1) := by decide +kernel
theorem dX8_held_62 : decode cX8_held 62 = .ok (.getfield 201, 3) := by decide +kernel
theorem dX8_held_65 : decode cX8_held 65 = .ok (.ifCond .eq 12, 3) := by decide +kernel
theorem dX8_held_68 : decode cX8_held 68 = .ok (.aload_n 0, 1) := by decide +kernel
theorem dX8_held_69 : decode cX8_held 69 = .ok (.iload_n 3, 1) := by decide +kernel
theorem dX8_held_70 : decode cX8_held 70 = .ok (.iload_n 2, 1) := by decide +kernel
theorem dX8_held_71 : decode cX8_held 71 = .ok (.invokevirtual 188, 3) := by decide +kernel
theorem dX8_held_74 : decode cX8_held 74 = .ok (.ifCond .ne 5, 3) := by decide +kernel
theorem dX8_held_77 : decode cX8_held 77 = .ok (.iconst 0, 1) := by decide +kernel
theorem dX8_held_78 : decode cX8_held 78 = .ok (.ireturn, 1) := by decide +kernel
theorem dX8_held_79 : decode cX8_held 79 = .ok (.iload 4, 2) := by decide +kernel
theorem dX8_held_81 : decode cX8_held 81 = .ok (.ifCond .ne 12, 3) := by decide +kernel
theorem dX8_held_84 : decode cX8_held 84 = .ok (.aload_n 0, 1) := by decide +kernel
theorem dX8_held_85 : decode cX8_held 85 = .ok (.getfield 72, 3) := by decide +kernel
theorem dX8_held_88 : decode cX8_held 88 = .ok (.iload_n 3, 1) := by decide +kernel
theorem dX8_held_89 : decode cX8_held 89 = .ok (.iaload, 1) := by decide +kernel
theorem dX8_held_90 : decode cX8_held 90 = .ok (.goto 9, 3) := by decide +kernel
theorem dX8_held_93 : decode cX8_held 93 = .ok (.aload_n 0, 1) := by decide +kernel
theorem dX8_held_94 : decode cX8_held 94 = .ok (.getfield 75, 3) := by decide +kernel
theorem dX8_held_97 : decode cX8_held 97 = .ok (.iload_n 3, 1) := by decide +kernel
theorem dX8_held_98 : decode cX8_held 98 = .ok (.iaload, 1) := by decide +kernel
theorem dX8_held_99 : decode cX8_held 99 = .ok (.istore 6, 2) := by decide +kernel
theorem dX8_held_101 : decode cX8_held 101 = .ok (.iconst 0, 1) := by decide +kernel
theorem dX8_held_102 : decode cX8_held 102 = .ok (.istore 7, 2) := by decide +kernel
theorem dX8_held_104 : decode cX8_held 104 = .ok (.iconst 0, 1) := by decide +kernel
theorem dX8_held_105 : decode cX8_held 105 = .ok (.istore 8, 2) := by decide +kernel
theorem dX8_held_107 : decode cX8_held 107 = .ok (.iload 8, 2) := by decide +kernel
theorem dX8_held_109 : decode cX8_held 109 = .ok (.aload_n 0, 1) := by decide +kernel
theorem dX8_held_110 : decode cX8_held 110 = .ok (.getfield 122, 3) := by decide +kernel
theorem dX8_held_113 : decode cX8_held 113 = .ok (.if_icmp .ge 74, 3) := by decide +kernel
theorem dX8_held_116 : decode cX8_held 116 = .ok (.iload 5, 2) := by decide +kernel
theorem dX8_held_118 : decode cX8_held 118 = .ok (.iload 8, 2) := by decide +kernel
theorem dX8_held_120 : decode cX8_held 120 = .ok (.ishr, 1) := by decide +kernel
theorem dX8_held_121 : decode cX8_held 121 = .ok (.iconst 1, 1) := by decide +kernel
theorem dX8_held_122 : decode cX8_held 122 = .ok (.iand, 1) := by decide +kernel
theorem dX8_held_123 : decode cX8_held 123 = .ok (.iconst 1, 1) := by decide +kernel
theorem dX8_held_124 : decode cX8_held 124 = .ok (.if_icmp .ne 57, 3) := by decide +kernel
theorem dX8_held_127 : decode cX8_held 127 = .ok (.aload_n 0, 1) := by decide +kernel
theorem dX8_held_128 : decode cX8_held 128 = .ok (.iload_n 1, 1) := by decide +kernel
theorem dX8_held_129 : decode cX8_held 129 = .ok (.iload_n 2, 1) := by decide +kernel
theorem dX8_held_130 : decode cX8_held 130 = .ok (.iload 5, 2) := by decide +kernel
theorem dX8_held_132 : decode cX8_held 132 = .ok (.iconst 1, 1) := by decide +kernel
theorem dX8_held_133 : decode cX8_held 133 = .ok (.iload 8, 2) := by decide +kernel
theorem dX8_held_135 : decode cX8_held 135 = .ok (.ishl, 1) := by decide +kernel
theorem dX8_held_136 : decode cX8_held 136 = .ok (.iconst (-1), 1) := by decide +kernel
theorem dX8_held_137 : decode cX8_held 137 = .ok (.ixor, 1) := by decide +kernel
theorem dX8_held_138 : decode cX8_held 138 = .ok (.iand, 1) := by decide +kernel
theorem dX8_held_139 : decode cX8_held 139 = .ok (.iconst (-1), 1) := by decide +kernel
theorem dX8_held_140 : decode cX8_held 140 = .ok (.invokevirtual 222, 3) := by decide +kernel
theorem dX8_held_143 : decode cX8_held 143 = .ok (.iload 7, 2) := by decide +kernel
theorem dX8_held_145 : decode cX8_held 145 = .ok (.iload 4, 2) := by decide +kernel
theorem dX8_held_147 : decode cX8_held 147 = .ok (.ifCond .ne 12, 3) := by decide +kernel
theorem dX8_held_150 : decode cX8_held 150 = .ok (.aload_n 0, 1) := by decide +kernel
theorem dX8_held_151 : decode cX8_held 151 = .ok (.getfield 72, 3) := by decide +kernel
theorem dX8_held_154 : decode cX8_held 154 = .ok (.iload_n 3, 1) := by decide +kernel
theorem dX8_held_155 : decode cX8_held 155 = .ok (.iaload, 1) := by decide +kernel
theorem dX8_held_156 : decode cX8_held 156 = .ok (.goto 9, 3) := by decide +kernel
theorem dX8_held_159 : decode cX8_held 159 = .ok (.aload_n 0, 1) := by decide +kernel
theorem dX8_held_160 : decode cX8_held 160 = .ok (.getfield 75, 3) := by decide +kernel
theorem dX8_held_163 : decode cX8_held 163 = .ok (.iload_n 3, 1) := by decide +kernel
theorem dX8_held_164 : decode cX8_held 164 = .ok (.iaload, 1) := by decide +kernel
theorem dX8_held_165 : decode cX8_held 165 = .ok (.iload 6, 2) := by decide +kernel
theorem dX8_held_167 : decode cX8_held 167 = .ok (.if_icmp .eq 10, 3) := by decide +kernel
theorem dX8_held_170 : decode cX8_held 170 = .ok (.iconst 1, 1) := by decide +kernel
theorem dX8_held_171 : decode cX8_held 171 = .ok (.iload 8, 2) := by decide +kernel
theorem dX8_held_173 : decode cX8_held 173 = .ok (.ishl, 1) := by decide +kernel
theorem dX8_held_174 : decode cX8_held 174 = .ok (.goto 4, 3) := by decide +kernel
theorem dX8_held_177 : decode cX8_held 177 = .ok (.iconst 0, 1) := by decide +kernel
theorem dX8_held_178 : decode cX8_held 178 = .ok (.ior, 1) := by decide +kernel
theorem dX8_held_179 : decode cX8_held 179 = .ok (.istore 7, 2) := by decide +kernel
theorem dX8_held_181 : decode cX8_held 181 = .ok (.iinc 8 1, 3) := by decide +kernel
theorem dX8_held_184 : decode cX8_held 184 = .ok (.goto (-77), 3) := by decide +kernel
theorem dX8_held_187 : decode cX8_held 187 = .ok (.iload 7, 2) := by decide +kernel
theorem dX8_held_189 : decode cX8_held 189 = .ok (.ireturn, 1) := by decide +kernel
theorem dX8_holds_0 : decode cX8_holds 0 = .ok (.aload_n 0, 1) := by decide +kernel
theorem dX8_holds_1 : decode cX8_holds 1 = .ok (.getfield 47, 3) := by decide +kernel
theorem dX8_holds_4 : decode cX8_holds 4 = .ok (.iload_n 1, 1) := by decide +kernel
theorem dX8_holds_5 : decode cX8_holds 5 = .ok (.iaload, 1) := by decide +kernel
theorem dX8_holds_6 : decode cX8_holds 6 = .ok (.iconst 3, 1) := by decide +kernel
theorem dX8_holds_7 : decode cX8_holds 7 = .ok (.if_icmp .ne 5, 3) := by decide +kernel
theorem dX8_holds_10 : decode cX8_holds 10 = .ok (.iconst 1, 1) := by decide +kernel
theorem dX8_holds_11 : decode cX8_holds 11 = .ok (.ireturn, 1) := by decide +kernel
theorem dX8_holds_12 : decode cX8_holds 12 = .ok (.aload_n 0, 1) := by decide +kernel
theorem dX8_holds_13 : decode cX8_holds 13 = .ok (.iconst (-1), 1) := by decide +kernel
theorem dX8_holds_14 : decode cX8_holds 14 = .ok (.putfield 163, 3) := by decide +kernel
theorem dX8_holds_17 : decode cX8_holds 17 = .ok (.aload_n 0, 1) := by decide +kernel
theorem dX8_holds_18 : decode cX8_holds 18 = .ok (.invokevirtual 166, 3) := by decide +kernel
theorem dX8_holds_21 : decode cX8_holds 21 = .ok (.iconst 4, 1) := by decide +kernel
theorem dX8_holds_22 : decode cX8_holds 22 = .ok (.istore_n 2, 1) := by decide +kernel
theorem dX8_holds_23 : decode cX8_holds 23 = .ok (.iload_n 2, 1) := by decide +kernel
theorem dX8_holds_24 : decode cX8_holds 24 = .ok (.aload_n 0, 1) := by decide +kernel
theorem dX8_holds_25 : decode cX8_holds 25 = .ok (.getfield 47, 3) := by decide +kernel
theorem dX8_holds_28 : decode cX8_holds 28 = .ok (.iload_n 1, 1) := by decide +kernel
theorem dX8_holds_29 : decode cX8_holds 29 = .ok (.iaload, 1) := by decide +kernel
theorem dX8_holds_30 : decode cX8_holds 30 = .ok (.if_icmp .ge 349, 3) := by decide +kernel
theorem dX8_holds_33 : decode cX8_holds 33 = .ok (.aload_n 0, 1) := by decide +kernel
theorem dX8_holds_34 : decode cX8_holds 34 = .ok (.getfield 44, 3) := by decide +kernel
theorem dX8_holds_37 : decode cX8_holds 37 = .ok (.bipush 60, 2) := by decide +kernel
theorem dX8_holds_39 : decode cX8_holds 39 = .ok (.iload_n 1, 1) := by decide +kernel
theorem dX8_holds_40 : decode cX8_holds 40 = .ok (.imul, 1) := by decide +kernel
theorem dX8_holds_41 : decode cX8_holds 41 = .ok (.iload_n 2, 1) := by decide +kernel
theorem dX8_holds_42 : decode cX8_holds 42 = .ok (.iadd, 1) := by decide +kernel
theorem dX8_holds_43 : decode cX8_holds 43 = .ok (.baload, 1) := by decide +kernel
theorem dX8_holds_44 : decode cX8_holds 44 = .ok (.istore_n 3, 1) := by decide +kernel
theorem dX8_holds_45 : decode cX8_holds 45 = .ok (.iinc 2 1, 3) := by decide +kernel
theorem dX8_holds_48 : decode cX8_holds 48 = .ok (.iload_n 3, 1) := by decide +kernel
theorem dX8_holds_49 : decode cX8_holds 49 = .ok (.bipush 33, 2) := by decide +kernel
theorem dX8_holds_51 : decode cX8_holds 51 = .ok (.if_icmp .ne 32, 3) := by decide +kernel
theorem dX8_holds_54 : decode cX8_holds 54 = .ok (.aload_n 0, 1) := by decide +kernel
theorem dX8_holds_55 : decode cX8_holds 55 = .ok (.getfield 63, 3) := by decide +kernel
theorem dX8_holds_58 : decode cX8_holds 58 = .ok (.aload_n 0, 1) := by decide +kernel
theorem dX8_holds_59 : decode cX8_holds 59 = .ok (.getfield 163, 3) := by decide +kernel
theorem dX8_holds_62 : decode cX8_holds 62 = .ok (.aload_n 0, 1) := by decide +kernel
theorem dX8_holds_63 : decode cX8_holds 63 = .ok (.getfield 63, 3) := by decide +kernel
theorem dX8_holds_66 : decode cX8_holds 66 = .ok (.aload_n 0, 1) := by decide +kernel
theorem dX8_holds_67 : decode cX8_holds 67 = .ok (.getfield 163, 3) := by decide +kernel
theorem dX8_holds_70 : decode cX8_holds 70 = .ok (.baload, 1) := by decide +kernel
theorem dX8_holds_71 : decode cX8_holds 71 = .ok (.ifCond .ne 7, 3) := by decide +kernel
theorem dX8_holds_74 : decode cX8_holds 74 = .ok (.iconst 1, 1) := by decide +kernel
theorem dX8_holds_75 : decode cX8_holds 75 = .ok (.goto 4, 3) := by decide +kernel
theorem dX8_holds_78 : decode cX8_holds 78 = .ok (.iconst 0, 1) := by decide +kernel
theorem dX8_holds_79 : decode cX8_holds 79 = .ok (.bastore, 1) := by decide +kernel
theorem dX8_holds_80 : decode cX8_holds 80 = .ok (.goto 296, 3) := by decide +kernel
theorem dX8_holds_83 : decode cX8_holds 83 = .ok (.iload_n 3, 1) := by decide +kernel
theorem dX8_holds_84 : decode cX8_holds 84 = .ok (.bipush 40, 2) := by decide +kernel
theorem dX8_holds_86 : decode cX8_holds 86 = .ok (.if_icmp .ne 10, 3) := by decide +kernel
theorem dX8_holds_89 : decode cX8_holds 89 = .ok (.aload_n 0, 1) := by decide +kernel
theorem dX8_holds_90 : decode cX8_holds 90 = .ok (.invokevirtual 166, 3) := by decide +kernel
theorem dX8_holds_93 : decode cX8_holds 93 = .ok (.goto 283, 3) := by decide +kernel
theorem dX8_holds_96 : decode cX8_holds 96 = .ok (.iload_n 3, 1) := by decide +kernel
theorem dX8_holds_97 : decode cX8_holds 97 = .ok (.bipush 41, 2) := by decide +kernel
theorem dX8_holds_99 : decode cX8_holds 99 = .ok (.if_icmp .ne 53, 3) := by decide +kernel
theorem dX8_holds_102 : decode cX8_holds 102 = .ok (.aload_n 0, 1) := by decide +kernel
theorem dX8_holds_103 : decode cX8_holds 103 = .ok (.getfield 56, 3) := by decide +kernel
theorem dX8_holds_106 : decode cX8_holds 106 = .ok (.aload_n 0, 1) := by decide +kernel
theorem dX8_holds_107 : decode cX8_holds 107 = .ok (.getfield 163, 3) := by decide +kernel
theorem dX8_holds_110 : decode cX8_holds 110 = .ok (.baload, 1) := by decide +kernel
theorem dX8_holds_111 : decode cX8_holds 111 = .ok (.ifCond .ne 15, 3) := by decide +kernel
theorem dX8_holds_114 : decode cX8_holds 114 = .ok (.aload_n 0, 1) := by decide +kernel
theorem dX8_holds_115 : decode cX8_holds 115 = .ok (.getfield 60, 3) := by decide +kernel
theorem dX8_holds_118 : decode cX8_holds 118 = .ok (.aload_n 0, 1) := by decide +kernel
theorem dX8_holds_119 : decode cX8_holds 119 = .ok (.getfield 163, 3) := by decide +kernel
theorem dX8_holds_122 : decode cX8_holds 122 = .ok (.baload, 1) := by decide +kernel
theorem dX8_holds_123 : decode cX8_holds 123 = .ok (.ifCond .eq 7, 3) := by decide +kernel
theorem dX8_holds_126 : decode cX8_holds 126 = .ok (.iconst 1, 1) := by decide +kernel
theorem dX8_holds_127 : decode cX8_holds 127 = .ok (.goto 4, 3) := by decide +kernel
theorem dX8_holds_130 : decode cX8_holds 130 = .ok (.iconst 0, 1) := by decide +kernel
theorem dX8_holds_131 : decode cX8_holds 131 = .ok (.istore 4, 2) := by decide +kernel
theorem dX8_holds_133 : decode cX8_holds 133 = .ok (.aload_n 0, 1) := by decide +kernel
theorem dX8_holds_134 : decode cX8_holds 134 = .ok (.dup, 1) := by decide +kernel
theorem dX8_holds_135 : decode cX8_holds 135 = .ok (.getfield 163, 3) := by decide +kernel
theorem dX8_holds_138 : decode cX8_holds 138 = .ok (.iconst 1, 1) := by decide +kernel
theorem dX8_holds_139 : decode cX8_holds 139 = .ok (.isub, 1) := by decide +kernel
theorem dX8_holds_140 : decode cX8_holds 140 = .ok (.putfield 163, 3) := by decide +kernel
theorem dX8_holds_143 : decode cX8_holds 143 = .ok (.aload_n 0, 1) := by decide +kernel
theorem dX8_holds_144 : decode cX8_holds 144 = .ok (.iload 4, 2) := by decide +kernel
theorem dX8_holds_146 : decode cX8_holds 146 = .ok (.invokevirtual 169, 3) := by decide +kernel
theorem dX8_holds_149 : decode cX8_holds 149 = .ok (.goto 227, 3) := by decide +kernel
theorem dX8_holds_152 : decode cX8_holds 152 = .ok (.iload_n 3, 1) := by decide +kernel
theorem dX8_holds_153 : decode cX8_holds 153 = .ok (.bipush 124, 2) := by decide +kernel
theorem dX8_holds_155 : decode cX8_holds 155 = .ok (.if_icmp .ne 54, 3) := by decide +kernel
theorem dX8_holds_158 : decode cX8_holds 158 = .ok (.aload_n 0, 1) := by decide +kernel
theorem dX8_holds_159 : decode cX8_holds 159 = .ok (.getfield 56, 3) := by decide +kernel
theorem dX8_holds_162 : decode cX8_holds 162 = .ok (.aload_n 0, 1) := by decide +kernel
theorem dX8_holds_163 : decode cX8_holds 163 = .ok (.getfield 163, 3) := by decide +kernel
theorem dX8_holds_166 : decode cX8_holds 166 = .ok (.aload_n 0, 1) := by decide +kernel
theorem dX8_holds_167 : decode cX8_holds 167 = .ok (.getfield 56, 3) := by decide +kernel
theorem dX8_holds_170 : decode cX8_holds 170 = .ok (.aload_n 0, 1) := by decide +kernel
theorem dX8_holds_171 : decode cX8_holds 171 = .ok (.getfield 163, 3) := by decide +kernel
theorem dX8_holds_174 : decode cX8_holds 174 = .ok (.baload, 1) := by decide +kernel
theorem dX8_holds_175 : decode cX8_holds 175 = .ok (.ifCond .ne 15, 3) := by decide +kernel
theorem dX8_holds_178 : decode cX8_holds 178 = .ok (.aload_n 0, 1) := by decide +kernel
theorem dX8_holds_179 : decode cX8_holds 179 = .ok (.getfield 60, 3) := by decide +kernel
theorem dX8_holds_182 : decode cX8_holds 182 = .ok (.aload_n 0, 1) := by decide +kernel
theorem dX8_holds_183 : decode cX8_holds 183 = .ok (.getfield 163, 3) := by decide +kernel
theorem dX8_holds_186 : decode cX8_holds 186 = .ok (.baload, 1) := by decide +kernel
theorem dX8_holds_187 : decode cX8_holds 187 = .ok (.ifCond .eq 7, 3) := by decide +kernel
theorem dX8_holds_190 : decode cX8_holds 190 = .ok (.iconst 1, 1) := by decide +kernel
theorem dX8_holds_191 : decode cX8_holds 191 = .ok (.goto 4, 3) := by decide +kernel
theorem dX8_holds_194 : decode cX8_holds 194 = .ok (.iconst 0, 1) := by decide +kernel
theorem dX8_holds_195 : decode cX8_holds 195 = .ok (.bastore, 1) := by decide +kernel
theorem dX8_holds_196 : decode cX8_holds 196 = .ok (.aload_n 0, 1) := by decide +kernel
theorem dX8_holds_197 : decode cX8_holds 197 = .ok (.getfield 60, 3) := by decide +kernel
theorem dX8_holds_200 : decode cX8_holds 200 = .ok (.aload_n 0, 1) := by decide +kernel
theorem dX8_holds_201 : decode cX8_holds 201 = .ok (.getfield 163, 3) := by decide +kernel
theorem dX8_holds_204 : decode cX8_holds 204 = .ok (.iconst 1, 1) := by decide +kernel
theorem dX8_holds_205 : decode cX8_holds 205 = .ok (.bastore, 1) := by decide +kernel
theorem dX8_holds_206 : decode cX8_holds 206 = .ok (.goto 170, 3) := by decide +kernel
theorem dX8_holds_209 : decode cX8_holds 209 = .ok (.iload_n 3, 1) := by decide +kernel
theorem dX8_holds_210 : decode cX8_holds 210 = .ok (.bipush 38, 2) := by decide +kernel
theorem dX8_holds_212 : decode cX8_holds 212 = .ok (.if_icmp .eq 164, 3) := by decide +kernel
theorem dX8_holds_215 : decode cX8_holds 215 = .ok (.aload_n 0, 1) := by decide +kernel
theorem dX8_holds_216 : decode cX8_holds 216 = .ok (.getfield 44, 3) := by decide +kernel
theorem dX8_holds_219 : decode cX8_holds 219 = .ok (.bipush 60, 2) := by decide +kernel
theorem dX8_holds_221 : decode cX8_holds 221 = .ok (.iload_n 1, 1) := by decide +kernel
theorem dX8_holds_222 : decode cX8_holds 222 = .ok (.imul, 1) := by decide +kernel
theorem dX8_holds_223 : decode cX8_holds 223 = .ok (.iload_n 2, 1) := by decide +kernel
theorem dX8_holds_224 : decode cX8_holds 224 = .ok (.iadd, 1) := by decide +kernel
theorem dX8_holds_225 : decode cX8_holds 225 = .ok (.baload, 1) := by decide +kernel
theorem dX8_holds_226 : decode cX8_holds 226 = .ok (.istore 4, 2) := by decide +kernel
theorem dX8_holds_228 : decode cX8_holds 228 = .ok (.aload_n 0, 1) := by decide +kernel
theorem dX8_holds_229 : decode cX8_holds 229 = .ok (.getfield 44, 3) := by decide +kernel
theorem dX8_holds_232 : decode cX8_holds 232 = .ok (.bipush 60, 2) := by decide +kernel
theorem dX8_holds_234 : decode cX8_holds 234 = .ok (.iload_n 1, 1) := by decide +kernel
theorem dX8_holds_235 : decode cX8_holds 235 = .ok (.imul, 1) := by decide +kernel
theorem dX8_holds_236 : decode cX8_holds 236 = .ok (.iload_n 2, 1) := by decide +kernel
theorem dX8_holds_237 : decode cX8_holds 237 = .ok (.iadd, 1) := by decide +kernel
theorem dX8_holds_238 : decode cX8_holds 238 = .ok (.iconst 1, 1) := by decide +kernel
theorem dX8_holds_239 : decode cX8_holds 239 = .ok (.iadd, 1) := by decide +kernel
theorem dX8_holds_240 : decode cX8_holds 240 = .ok (.baload, 1) := by decide +kernel
theorem dX8_holds_241 : decode cX8_holds 241 = .ok (.bipush 48, 2) := by decide +kernel
theorem dX8_holds_243 : decode cX8_holds 243 = .ok (.isub, 1) := by decide +kernel
theorem dX8_holds_244 : decode cX8_holds 244 = .ok (.istore 5, 2) := by decide +kernel
theorem dX8_holds_246 : decode cX8_holds 246 = .ok (.iinc 2 2, 3) := by decide +kernel
theorem dX8_holds_249 : decode cX8_holds 249 = .ok (.iload_n 2, 1) := by decide +kernel
theorem dX8_holds_250 : decode cX8_holds 250 = .ok (.aload_n 0, 1) := by decide +kernel
theorem dX8_holds_251 : decode cX8_holds 251 = .ok (.getfield 47, 3) := by decide +kernel
theorem dX8_holds_254 : decode cX8_holds 254 = .ok (.iload_n 1, 1) := by decide +kernel
theorem dX8_holds_255 : decode cX8_holds 255 = .ok (.iaload, 1) := by decide +kernel
theorem dX8_holds_256 : decode cX8_holds 256 = .ok (.if_icmp .ge 49, 3) := by decide +kernel
theorem dX8_holds_259 : decode cX8_holds 259 = .ok (.aload_n 0, 1) := by decide +kernel
theorem dX8_holds_260 : decode cX8_holds 260 = .ok (.getfield 44, 3) := by decide +kernel
theorem dX8_holds_263 : decode cX8_holds 263 = .ok (.bipush 60, 2) := by decide +kernel
theorem dX8_holds_265 : decode cX8_holds 265 = .ok (.iload_n 1, 1) := by decide +kernel
theorem dX8_holds_266 : decode cX8_holds 266 = .ok (.imul, 1) := by decide +kernel
theorem dX8_holds_267 : decode cX8_holds 267 = .ok (.iload_n 2, 1) := by decide +kernel
theorem dX8_holds_268 : decode cX8_holds 268 = .ok (.iadd, 1) := by decide +kernel
theorem dX8_holds_269 : decode cX8_holds 269 = .ok (.baload, 1) := by decide +kernel
theorem dX8_holds_270 : decode cX8_holds 270 = .ok (.bipush 48, 2) := by decide +kernel
theorem dX8_holds_272 : decode cX8_holds 272 = .ok (.bipush 57, 2) := by decide +kernel
theorem dX8_holds_274 : decode cX8_holds 274 = .ok (.invokestatic 88, 3) := by decide +kernel
theorem dX8_holds_277 : decode cX8_holds 277 = .ok (.ifCond .eq 28, 3) := by decide +kernel
theorem dX8_holds_280 : decode cX8_holds 280 = .ok (.bipush 10, 2) := by decide +kernel
theorem dX8_holds_282 : decode cX8_holds 282 = .ok (.iload 5, 2) := by decide +kernel
theorem dX8_holds_284 : decode cX8_holds 284 = .ok (.imul, 1) := by decide +kernel
theorem dX8_holds_285 : decode cX8_holds 285 = .ok (.aload_n 0, 1) := by decide +kernel
theorem dX8_holds_286 : decode cX8_holds 286 = .ok (.getfield 44, 3) := by decide +kernel
theorem dX8_holds_289 : decode cX8_holds 289 = .ok (.bipush 60, 2) := by decide +kernel
theorem dX8_holds_291 : decode cX8_holds 291 = .ok (.iload_n 1, 1) := by decide +kernel
theorem dX8_holds_292 : decode cX8_holds 292 = .ok (.imul, 1) := by decide +kernel
theorem dX8_holds_293 : decode cX8_holds 293 = .ok (.iload_n 2, 1) := by decide +kernel
theorem dX8_holds_294 : decode cX8_holds 294 = .ok (.iadd, 1) := by decide +kernel
theorem dX8_holds_295 : decode cX8_holds 295 = .ok (.baload, 1) := by decide +kernel
theorem dX8_holds_296 : decode cX8_holds 296 = .ok (.iadd, 1) := by decide +kernel
theorem dX8_holds_297 : decode cX8_holds 297 = .ok (.bipush 48, 2) := by decide +kernel
theorem dX8_holds_299 : decode cX8_holds 299 = .ok (.isub, 1) := by decide +kernel
theorem dX8_holds_300 : decode cX8_holds 300 = .ok (.istore 5, 2) := by decide +kernel
theorem dX8_holds_302 : decode cX8_holds 302 = .ok (.iinc 2 1, 3) := by decide +kernel
theorem dX8_holds_305 : decode cX8_holds 305 = .ok (.aload_n 0, 1) := by decide +kernel
theorem dX8_holds_306 : decode cX8_holds 306 = .ok (.getfield 53, 3) := by decide +kernel
theorem dX8_holds_309 : decode cX8_holds 309 = .ok (.iload_n 3, 1) := by decide +kernel
theorem dX8_holds_310 : decode cX8_holds 310 = .ok (.invokestatic 173, 3) := by decide +kernel
theorem dX8_holds_313 : decode cX8_holds 313 = .ok (.iaload, 1) := by decide +kernel
theorem dX8_holds_314 : decode cX8_holds 314 = .ok (.istore 6, 2) := by decide +kernel
theorem dX8_holds_316 : decode cX8_holds 316 = .ok (.aload_n 0, 1) := by decide +kernel
theorem dX8_holds_317 : decode cX8_holds 317 = .ok (.iload 4, 2) := by decide +kernel
theorem dX8_holds_319 : decode cX8_holds 319 = .ok (.bipush 60, 2) := by decide +kernel
theorem dX8_holds_321 : decode cX8_holds 321 = .ok (.if_icmp .ne 18, 3) := by decide +kernel
theorem dX8_holds_324 : decode cX8_holds 324 = .ok (.iload 6, 2) := by decide +kernel
theorem dX8_holds_326 : decode cX8_holds 326 = .ok (.iload 5, 2) := by decide +kernel
theorem dX8_holds_328 : decode cX8_holds 328 = .ok (.if_icmp .ge 7, 3) := by decide +kernel
theorem dX8_holds_331 : decode cX8_holds 331 = .ok (.iconst 1, 1) := by decide +kernel
theorem dX8_holds_332 : decode cX8_holds 332 = .ok (.goto 41, 3) := by decide +kernel
theorem dX8_holds_335 : decode cX8_holds 335 = .ok (.iconst 0, 1) := by decide +kernel
theorem dX8_holds_336 : decode cX8_holds 336 = .ok (.goto 37, 3) := by decide +kernel
theorem dX8_holds_339 : decode cX8_holds 339 = .ok (.iload 4, 2) := by decide +kernel
theorem dX8_holds_341 : decode cX8_holds 341 = .ok (.bipush 61, 2) := by decide +kernel
theorem dX8_holds_343 : decode cX8_holds 343 = .ok (.if_icmp .ne 18, 3) := by decide +kernel
theorem dX8_holds_346 : decode cX8_holds 346 = .ok (.iload 6, 2) := by decide +kernel
theorem dX8_holds_348 : decode cX8_holds 348 = .ok (.iload 5, 2) := by decide +kernel
theorem dX8_holds_350 : decode cX8_holds 350 = .ok (.if_icmp .ne 7, 3) := by decide +kernel
theorem dX8_holds_353 : decode cX8_holds 353 = .ok (.iconst 1, 1) := by decide +kernel
theorem dX8_holds_354 : decode cX8_holds 354 = .ok (.goto 19, 3) := by decide +kernel
theorem dX8_holds_357 : decode cX8_holds 357 = .ok (.iconst 0, 1) := by decide +kernel
theorem dX8_holds_358 : decode cX8_holds 358 = .ok (.goto 15, 3) := by decide +kernel
theorem dX8_holds_361 : decode cX8_holds 361 = .ok (.iload 6, 2) := by decide +kernel
theorem dX8_holds_363 : decode cX8_holds 363 = .ok (.iload 5, 2) := by decide +kernel
theorem dX8_holds_365 : decode cX8_holds 365 = .ok (.if_icmp .le 7, 3) := by decide +kernel
theorem dX8_holds_368 : decode cX8_holds 368 = .ok (.iconst 1, 1) := by decide +kernel
theorem dX8_holds_369 : decode cX8_holds 369 = .ok (.goto 4, 3) := by decide +kernel
theorem dX8_holds_372 : decode cX8_holds 372 = .ok (.iconst 0, 1) := by decide +kernel
theorem dX8_holds_373 : decode cX8_holds 373 = .ok (.invokevirtual 169, 3) := by decide +kernel
theorem dX8_holds_376 : decode cX8_holds 376 = .ok (.goto (-353), 3) := by decide +kernel
theorem dX8_holds_379 : decode cX8_holds 379 = .ok (.aload_n 0, 1) := by decide +kernel
theorem dX8_holds_380 : decode cX8_holds 380 = .ok (.getfield 56, 3) := by decide +kernel
theorem dX8_holds_383 : decode cX8_holds 383 = .ok (.iconst 0, 1) := by decide +kernel
theorem dX8_holds_384 : decode cX8_holds 384 = .ok (.baload, 1) := by decide +kernel
theorem dX8_holds_385 : decode cX8_holds 385 = .ok (.ifCond .ne 12, 3) := by decide +kernel
theorem dX8_holds_388 : decode cX8_holds 388 = .ok (.aload_n 0, 1) := by decide +kernel
theorem dX8_holds_389 : decode cX8_holds 389 = .ok (.getfield 60, 3) := by decide +kernel
theorem dX8_holds_392 : decode cX8_holds 392 = .ok (.iconst 0, 1) := by decide +kernel
theorem dX8_holds_393 : decode cX8_holds 393 = .ok (.baload, 1) := by decide +kernel
theorem dX8_holds_394 : decode cX8_holds 394 = .ok (.ifCond .eq 7, 3) := by decide +kernel
theorem dX8_holds_397 : decode cX8_holds 397 = .ok (.iconst 1, 1) := by decide +kernel
theorem dX8_holds_398 : decode cX8_holds 398 = .ok (.goto 4, 3) := by decide +kernel
theorem dX8_holds_401 : decode cX8_holds 401 = .ok (.iconst 0, 1) := by decide +kernel
theorem dX8_holds_402 : decode cX8_holds 402 = .ok (.ireturn, 1) := by decide +kernel
theorem dX8_holdsTold_0 : decode cX8_holdsTold 0 = .ok (.aload_n 0, 1) := by decide +kernel
theorem dX8_holdsTold_1 : decode cX8_holdsTold 1 = .ok (.getfield 28, 3) := by decide +kernel
theorem dX8_holdsTold_4 : decode cX8_holdsTold 4 = .ok (.aload_n 0, 1) := by decide +kernel
theorem dX8_holdsTold_5 : decode cX8_holdsTold 5 = .ok (.getfield 31, 3) := by decide +kernel
theorem dX8_holdsTold_8 : decode cX8_holdsTold 8 = .ok (.bipush 7, 2) := by decide +kernel
theorem dX8_holdsTold_10 : decode cX8_holdsTold 10 = .ok (.iload_n 1, 1) := by decide +kernel
theorem dX8_holdsTold_11 : decode cX8_holdsTold 11 = .ok (.imul, 1) := by decide +kernel
theorem dX8_holdsTold_12 : decode cX8_holdsTold 12 = .ok (.iconst 1, 1) := by decide +kernel
theorem dX8_holdsTold_13 : decode cX8_holdsTold 13 = .ok (.iadd, 1) := by decide +kernel
theorem dX8_holdsTold_14 : decode cX8_holdsTold 14 = .ok (.iaload, 1) := by decide +kernel
theorem dX8_holdsTold_15 : decode cX8_holdsTold 15 = .ok (.iaload, 1) := by decide +kernel
theorem dX8_holdsTold_16 : decode cX8_holdsTold 16 = .ok (.aload_n 0, 1) := by decide +kernel
theorem dX8_holdsTold_17 : decode cX8_holdsTold 17 = .ok (.getfield 31, 3) := by decide +kernel
theorem dX8_holdsTold_20 : decode cX8_holdsTold 20 = .ok (.bipush 7, 2) := by decide +kernel
theorem dX8_holdsTold_22 : decode cX8_holdsTold 22 = .ok (.iload_n 1, 1) := by decide +kernel
theorem dX8_holdsTold_23 : decode cX8_holdsTold 23 = .ok (.imul, 1) := by decide +kernel
theorem dX8_holdsTold_24 : decode cX8_holdsTold 24 = .ok (.iconst 2, 1) := by decide +kernel
theorem dX8_holdsTold_25 : decode cX8_holdsTold 25 = .ok (.iadd, 1) := by decide +kernel
theorem dX8_holdsTold_26 : decode cX8_holdsTold 26 = .ok (.iaload, 1) := by decide +kernel
theorem dX8_holdsTold_27 : decode cX8_holdsTold 27 = .ok (.iadd, 1) := by decide +kernel
theorem dX8_holdsTold_28 : decode cX8_holdsTold 28 = .ok (.iconst 1, 1) := by decide +kernel
theorem dX8_holdsTold_29 : decode cX8_holdsTold 29 = .ok (.isub, 1) := by decide +kernel
theorem dX8_holdsTold_30 : decode cX8_holdsTold 30 = .ok (.istore_n 2, 1) := by decide +kernel
theorem dX8_holdsTold_31 : decode cX8_holdsTold 31 = .ok (.aload_n 0, 1) := by decide +kernel
theorem dX8_holdsTold_32 : decode cX8_holdsTold 32 = .ok (.getfield 31, 3) := by decide +kernel
theorem dX8_holdsTold_35 : decode cX8_holdsTold 35 = .ok (.bipush 7, 2) := by decide +kernel
theorem dX8_holdsTold_37 : decode cX8_holdsTold 37 = .ok (.iload_n 1, 1) := by decide +kernel
theorem dX8_holdsTold_38 : decode cX8_holdsTold 38 = .ok (.imul, 1) := by decide +kernel
theorem dX8_holdsTold_39 : decode cX8_holdsTold 39 = .ok (.iconst 3, 1) := by decide +kernel
theorem dX8_holdsTold_40 : decode cX8_holdsTold 40 = .ok (.iadd, 1) := by decide +kernel
theorem dX8_holdsTold_41 : decode cX8_holdsTold 41 = .ok (.iaload, 1) := by decide +kernel
theorem dX8_holdsTold_42 : decode cX8_holdsTold 42 = .ok (.iconst (-1), 1) := by decide +kernel
theorem dX8_holdsTold_43 : decode cX8_holdsTold 43 = .ok (.if_icmp .ne 7, 3) := by decide +kernel
theorem dX8_holdsTold_46 : decode cX8_holdsTold 46 = .ok (.iconst 0, 1) := by decide +kernel
theorem dX8_holdsTold_47 : decode cX8_holdsTold 47 = .ok (.goto 33, 3) := by decide +kernel
theorem dX8_holdsTold_50 : decode cX8_holdsTold 50 = .ok (.aload_n 0, 1) := by decide +kernel
theorem dX8_holdsTold_51 : decode cX8_holdsTold 51 = .ok (.getfield 28, 3) := by decide +kernel
theorem dX8_holdsTold_54 : decode cX8_holdsTold 54 = .ok (.aload_n 0, 1) := by decide +kernel
theorem dX8_holdsTold_55 : decode cX8_holdsTold 55 = .ok (.getfield 31, 3) := by decide +kernel
theorem dX8_holdsTold_58 : decode cX8_holdsTold 58 = .ok (.bipush 7, 2) := by decide +kernel
theorem dX8_holdsTold_60 : decode cX8_holdsTold 60 = .ok (.iload_n 1, 1) := by decide +kernel
theorem dX8_holdsTold_61 : decode cX8_holdsTold 61 = .ok (.imul, 1) := by decide +kernel
theorem dX8_holdsTold_62 : decode cX8_holdsTold 62 = .ok (.iconst 3, 1) := by decide +kernel
theorem dX8_holdsTold_63 : decode cX8_holdsTold 63 = .ok (.iadd, 1) := by decide +kernel
theorem dX8_holdsTold_64 : decode cX8_holdsTold 64 = .ok (.iaload, 1) := by decide +kernel
theorem dX8_holdsTold_65 : decode cX8_holdsTold 65 = .ok (.iaload, 1) := by decide +kernel
theorem dX8_holdsTold_66 : decode cX8_holdsTold 66 = .ok (.aload_n 0, 1) := by decide +kernel
theorem dX8_holdsTold_67 : decode cX8_holdsTold 67 = .ok (.getfield 31, 3) := by decide +kernel
theorem dX8_holdsTold_70 : decode cX8_holdsTold 70 = .ok (.bipush 7, 2) := by decide +kernel
theorem dX8_holdsTold_72 : decode cX8_holdsTold 72 = .ok (.iload_n 1, 1) := by decide +kernel
theorem dX8_holdsTold_73 : decode cX8_holdsTold 73 = .ok (.imul, 1) := by decide +kernel
theorem dX8_holdsTold_74 : decode cX8_holdsTold 74 = .ok (.iconst 4, 1) := by decide +kernel
theorem dX8_holdsTold_75 : decode cX8_holdsTold 75 = .ok (.iadd, 1) := by decide +kernel
theorem dX8_holdsTold_76 : decode cX8_holdsTold 76 = .ok (.iaload, 1) := by decide +kernel
theorem dX8_holdsTold_77 : decode cX8_holdsTold 77 = .ok (.iadd, 1) := by decide +kernel
theorem dX8_holdsTold_78 : decode cX8_holdsTold 78 = .ok (.iconst 1, 1) := by decide +kernel
theorem dX8_holdsTold_79 : decode cX8_holdsTold 79 = .ok (.isub, 1) := by decide +kernel
theorem dX8_holdsTold_80 : decode cX8_holdsTold 80 = .ok (.istore_n 3, 1) := by decide +kernel
theorem dX8_holdsTold_81 : decode cX8_holdsTold 81 = .ok (.aload_n 0, 1) := by decide +kernel
theorem dX8_holdsTold_82 : decode cX8_holdsTold 82 = .ok (.getfield 31, 3) := by decide +kernel
theorem dX8_holdsTold_85 : decode cX8_holdsTold 85 = .ok (.bipush 7, 2) := by decide +kernel
theorem dX8_holdsTold_87 : decode cX8_holdsTold 87 = .ok (.iload_n 1, 1) := by decide +kernel
theorem dX8_holdsTold_88 : decode cX8_holdsTold 88 = .ok (.imul, 1) := by decide +kernel
theorem dX8_holdsTold_89 : decode cX8_holdsTold 89 = .ok (.iaload, 1) := by decide +kernel
theorem dX8_holdsTold_90 : decode cX8_holdsTold 90 = .ok (.tableswitch 120 0 2 #[26, 56, 102], 26) := by decide +kernel
theorem dX8_holdsTold_116 : decode cX8_holdsTold 116 = .ok (.iload_n 2, 1) := by decide +kernel
theorem dX8_holdsTold_117 : decode cX8_holdsTold 117 = .ok (.iload_n 3, 1) := by decide +kernel
theorem dX8_holdsTold_118 : decode cX8_holdsTold 118 = .ok (.isub, 1) := by decide +kernel
theorem dX8_holdsTold_119 : decode cX8_holdsTold 119 = .ok (.aload_n 0, 1) := by decide +kernel
theorem dX8_holdsTold_120 : decode cX8_holdsTold 120 = .ok (.getfield 31, 3) := by decide +kernel
theorem dX8_holdsTold_123 : decode cX8_holdsTold 123 = .ok (.bipush 7, 2) := by decide +kernel
theorem dX8_holdsTold_125 : decode cX8_holdsTold 125 = .ok (.iload_n 1, 1) := by decide +kernel
theorem dX8_holdsTold_126 : decode cX8_holdsTold 126 = .ok (.imul, 1) := by decide +kernel
theorem dX8_holdsTold_127 : decode cX8_holdsTold 127 = .ok (.iconst 5, 1) := by decide +kernel
theorem dX8_holdsTold_128 : decode cX8_holdsTold 128 = .ok (.iadd, 1) := by decide +kernel
theorem dX8_holdsTold_129 : decode cX8_holdsTold 129 = .ok (.iaload, 1) := by decide +kernel
theorem dX8_holdsTold_130 : decode cX8_holdsTold 130 = .ok (.ineg, 1) := by decide +kernel
theorem dX8_holdsTold_131 : decode cX8_holdsTold 131 = .ok (.aload_n 0, 1) := by decide +kernel
theorem dX8_holdsTold_132 : decode cX8_holdsTold 132 = .ok (.getfield 31, 3) := by decide +kernel
theorem dX8_holdsTold_135 : decode cX8_holdsTold 135 = .ok (.bipush 7, 2) := by decide +kernel
theorem dX8_holdsTold_137 : decode cX8_holdsTold 137 = .ok (.iload_n 1, 1) := by decide +kernel
theorem dX8_holdsTold_138 : decode cX8_holdsTold 138 = .ok (.imul, 1) := by decide +kernel
theorem dX8_holdsTold_139 : decode cX8_holdsTold 139 = .ok (.iconst 5, 1) := by decide +kernel
theorem dX8_holdsTold_140 : decode cX8_holdsTold 140 = .ok (.iadd, 1) := by decide +kernel
theorem dX8_holdsTold_141 : decode cX8_holdsTold 141 = .ok (.iaload, 1) := by decide +kernel
theorem dX8_holdsTold_142 : decode cX8_holdsTold 142 = .ok (.invokestatic 88, 3) := by decide +kernel
theorem dX8_holdsTold_145 : decode cX8_holdsTold 145 = .ok (.ireturn, 1) := by decide +kernel
theorem dX8_holdsTold_146 : decode cX8_holdsTold 146 = .ok (.iload_n 2, 1) := by decide +kernel
theorem dX8_holdsTold_147 : decode cX8_holdsTold 147 = .ok (.aload_n 0, 1) := by decide +kernel
theorem dX8_holdsTold_148 : decode cX8_holdsTold 148 = .ok (.getfield 34, 3) := by decide +kernel
theorem dX8_holdsTold_151 : decode cX8_holdsTold 151 = .ok (.iconst 3, 1) := by decide +kernel
theorem dX8_holdsTold_152 : decode cX8_holdsTold 152 = .ok (.iload_n 1, 1) := by decide +kernel
theorem dX8_holdsTold_153 : decode cX8_holdsTold 153 = .ok (.imul, 1) := by decide +kernel
theorem dX8_holdsTold_154 : decode cX8_holdsTold 154 = .ok (.iaload, 1) := by decide +kernel
theorem dX8_holdsTold_155 : decode cX8_holdsTold 155 = .ok (.if_icmp .eq 31, 3) := by decide +kernel
theorem dX8_holdsTold_158 : decode cX8_holdsTold 158 = .ok (.iload_n 2, 1) := by decide +kernel
theorem dX8_holdsTold_159 : decode cX8_holdsTold 159 = .ok (.aload_n 0, 1) := by decide +kernel
theorem dX8_holdsTold_160 : decode cX8_holdsTold 160 = .ok (.getfield 34, 3) := by decide +kernel
theorem dX8_holdsTold_163 : decode cX8_holdsTold 163 = .ok (.iconst 3, 1) := by decide +kernel
theorem dX8_holdsTold_164 : decode cX8_holdsTold 164 = .ok (.iload_n 1, 1) := by decide +kernel
theorem dX8_holdsTold_165 : decode cX8_holdsTold 165 = .ok (.imul, 1) := by decide +kernel
theorem dX8_holdsTold_166 : decode cX8_holdsTold 166 = .ok (.iconst 1, 1) := by decide +kernel
theorem dX8_holdsTold_167 : decode cX8_holdsTold 167 = .ok (.iadd, 1) := by decide +kernel
theorem dX8_holdsTold_168 : decode cX8_holdsTold 168 = .ok (.iaload, 1) := by decide +kernel
theorem dX8_holdsTold_169 : decode cX8_holdsTold 169 = .ok (.if_icmp .eq 17, 3) := by decide +kernel
theorem dX8_holdsTold_172 : decode cX8_holdsTold 172 = .ok (.iload_n 2, 1) := by decide +kernel
theorem dX8_holdsTold_173 : decode cX8_holdsTold 173 = .ok (.aload_n 0, 1) := by decide +kernel
theorem dX8_holdsTold_174 : decode cX8_holdsTold 174 = .ok (.getfield 34, 3) := by decide +kernel
theorem dX8_holdsTold_177 : decode cX8_holdsTold 177 = .ok (.iconst 3, 1) := by decide +kernel
theorem dX8_holdsTold_178 : decode cX8_holdsTold 178 = .ok (.iload_n 1, 1) := by decide +kernel
theorem dX8_holdsTold_179 : decode cX8_holdsTold 179 = .ok (.imul, 1) := by decide +kernel
theorem dX8_holdsTold_180 : decode cX8_holdsTold 180 = .ok (.iconst 2, 1) := by decide +kernel
theorem dX8_holdsTold_181 : decode cX8_holdsTold 181 = .ok (.iadd, 1) := by decide +kernel
theorem dX8_holdsTold_182 : decode cX8_holdsTold 182 = .ok (.iaload, 1) := by decide +kernel
theorem dX8_holdsTold_183 : decode cX8_holdsTold 183 = .ok (.if_icmp .ne 7, 3) := by decide +kernel
theorem dX8_holdsTold_186 : decode cX8_holdsTold 186 = .ok (.iconst 1, 1) := by decide +kernel
theorem dX8_holdsTold_187 : decode cX8_holdsTold 187 = .ok (.goto 4, 3) := by decide +kernel
theorem dX8_holdsTold_190 : decode cX8_holdsTold 190 = .ok (.iconst 0, 1) := by decide +kernel
theorem dX8_holdsTold_191 : decode cX8_holdsTold 191 = .ok (.ireturn, 1) := by decide +kernel
theorem dX8_holdsTold_192 : decode cX8_holdsTold 192 = .ok (.iload_n 2, 1) := by decide +kernel
theorem dX8_holdsTold_193 : decode cX8_holdsTold 193 = .ok (.aload_n 0, 1) := by decide +kernel
theorem dX8_holdsTold_194 : decode cX8_holdsTold 194 = .ok (.getfield 34, 3) := by decide +kernel
theorem dX8_holdsTold_197 : decode cX8_holdsTold 197 = .ok (.iconst 3, 1) := by decide +kernel
theorem dX8_holdsTold_198 : decode cX8_holdsTold 198 = .ok (.iload_n 1, 1) := by decide +kernel
theorem dX8_holdsTold_199 : decode cX8_holdsTold 199 = .ok (.imul, 1) := by decide +kernel
theorem dX8_holdsTold_200 : decode cX8_holdsTold 200 = .ok (.iaload, 1) := by decide +kernel
theorem dX8_holdsTold_201 : decode cX8_holdsTold 201 = .ok (.if_icmp .lt 7, 3) := by decide +kernel
theorem dX8_holdsTold_204 : decode cX8_holdsTold 204 = .ok (.iconst 1, 1) := by decide +kernel
theorem dX8_holdsTold_205 : decode cX8_holdsTold 205 = .ok (.goto 4, 3) := by decide +kernel
theorem dX8_holdsTold_208 : decode cX8_holdsTold 208 = .ok (.iconst 0, 1) := by decide +kernel
theorem dX8_holdsTold_209 : decode cX8_holdsTold 209 = .ok (.ireturn, 1) := by decide +kernel
theorem dX8_holdsTold_210 : decode cX8_holdsTold 210 = .ok (.iload_n 2, 1) := by decide +kernel
theorem dX8_holdsTold_211 : decode cX8_holdsTold 211 = .ok (.iload_n 3, 1) := by decide +kernel
theorem dX8_holdsTold_212 : decode cX8_holdsTold 212 = .ok (.if_icmp .gt 7, 3) := by decide +kernel
theorem dX8_holdsTold_215 : decode cX8_holdsTold 215 = .ok (.iconst 1, 1) := by decide +kernel
theorem dX8_holdsTold_216 : decode cX8_holdsTold 216 = .ok (.goto 4, 3) := by decide +kernel
theorem dX8_holdsTold_219 : decode cX8_holdsTold 219 = .ok (.iconst 0, 1) := by decide +kernel
theorem dX8_holdsTold_220 : decode cX8_holdsTold 220 = .ok (.ireturn, 1) := by decide +kernel
theorem dX8_howMany_0 : decode cX8_howMany 0 = .ok (.iload_n 1, 1) := by decide +kernel
theorem dX8_howMany_1 : decode cX8_howMany 1 = .ok (.tableswitch 82 0 6 #[43, 48, 53, 60, 67, 72, 77], 43) := by decide +kernel
theorem dX8_howMany_44 : decode cX8_howMany 44 = .ok (.aload_n 0, 1) := by decide +kernel
theorem dX8_howMany_45 : decode cX8_howMany 45 = .ok (.getfield 84, 3) := by decide +kernel
theorem dX8_howMany_48 : decode cX8_howMany 48 = .ok (.ireturn, 1) := by decide +kernel
theorem dX8_howMany_49 : decode cX8_howMany 49 = .ok (.aload_n 0, 1) := by decide +kernel
theorem dX8_howMany_50 : decode cX8_howMany 50 = .ok (.getfield 122, 3) := by decide +kernel
theorem dX8_howMany_53 : decode cX8_howMany 53 = .ok (.ireturn, 1) := by decide +kernel
theorem dX8_howMany_54 : decode cX8_howMany 54 = .ok (.aload_n 0, 1) := by decide +kernel
theorem dX8_howMany_55 : decode cX8_howMany 55 = .ok (.getfield 41, 3) := by decide +kernel
theorem dX8_howMany_58 : decode cX8_howMany 58 = .ok (.iconst 0, 1) := by decide +kernel
theorem dX8_howMany_59 : decode cX8_howMany 59 = .ok (.iaload, 1) := by decide +kernel
theorem dX8_howMany_60 : decode cX8_howMany 60 = .ok (.ireturn, 1) := by decide +kernel
theorem dX8_howMany_61 : decode cX8_howMany 61 = .ok (.aload_n 0, 1) := by decide +kernel
theorem dX8_howMany_62 : decode cX8_howMany 62 = .ok (.getfield 41, 3) := by decide +kernel
theorem dX8_howMany_65 : decode cX8_howMany 65 = .ok (.iconst 1, 1) := by decide +kernel
theorem dX8_howMany_66 : decode cX8_howMany 66 = .ok (.iaload, 1) := by decide +kernel
theorem dX8_howMany_67 : decode cX8_howMany 67 = .ok (.ireturn, 1) := by decide +kernel
theorem dX8_howMany_68 : decode cX8_howMany 68 = .ok (.aload_n 0, 1) := by decide +kernel
theorem dX8_howMany_69 : decode cX8_howMany 69 = .ok (.getfield 140, 3) := by decide +kernel
theorem dX8_howMany_72 : decode cX8_howMany 72 = .ok (.ireturn, 1) := by decide +kernel
theorem dX8_howMany_73 : decode cX8_howMany 73 = .ok (.aload_n 0, 1) := by decide +kernel
theorem dX8_howMany_74 : decode cX8_howMany 74 = .ok (.getfield 237, 3) := by decide +kernel
theorem dX8_howMany_77 : decode cX8_howMany 77 = .ok (.ireturn, 1) := by decide +kernel
theorem dX8_howMany_78 : decode cX8_howMany 78 = .ok (.aload_n 0, 1) := by decide +kernel
theorem dX8_howMany_79 : decode cX8_howMany 79 = .ok (.getfield 225, 3) := by decide +kernel
theorem dX8_howMany_82 : decode cX8_howMany 82 = .ok (.ireturn, 1) := by decide +kernel
theorem dX8_howMany_83 : decode cX8_howMany 83 = .ok (.bipush (-102), 2) := by decide +kernel
theorem dX8_howMany_85 : decode cX8_howMany 85 = .ok (.ireturn, 1) := by decide +kernel
theorem dX8_init_0 : decode cX8_init 0 = .ok (.aload_n 0, 1) := by decide +kernel
theorem dX8_init_1 : decode cX8_init 1 = .ok (.invokespecial 1, 3) := by decide +kernel
theorem dX8_init_4 : decode cX8_init 4 = .ok (.aload_n 0, 1) := by decide +kernel
theorem dX8_init_5 : decode cX8_init 5 = .ok (.bipush 10, 2) := by decide +kernel
theorem dX8_init_7 : decode cX8_init 7 = .ok (.newarray .int, 2) := by decide +kernel
theorem dX8_init_9 : decode cX8_init 9 = .ok (.putfield 7, 3) := by decide +kernel
theorem dX8_init_12 : decode cX8_init 12 = .ok (.aload_n 0, 1) := by decide +kernel
theorem dX8_init_13 : decode cX8_init 13 = .ok (.bipush 10, 2) := by decide +kernel
theorem dX8_init_15 : decode cX8_init 15 = .ok (.newarray .int, 2) := by decide +kernel
theorem dX8_init_17 : decode cX8_init 17 = .ok (.putfield 13, 3) := by decide +kernel
theorem dX8_init_20 : decode cX8_init 20 = .ok (.aload_n 0, 1) := by decide +kernel
theorem dX8_init_21 : decode cX8_init 21 = .ok (.bipush 10, 2) := by decide +kernel
theorem dX8_init_23 : decode cX8_init 23 = .ok (.newarray .int, 2) := by decide +kernel
theorem dX8_init_25 : decode cX8_init 25 = .ok (.putfield 16, 3) := by decide +kernel
theorem dX8_init_28 : decode cX8_init 28 = .ok (.aload_n 0, 1) := by decide +kernel
theorem dX8_init_29 : decode cX8_init 29 = .ok (.bipush 10, 2) := by decide +kernel
theorem dX8_init_31 : decode cX8_init 31 = .ok (.newarray .int, 2) := by decide +kernel
theorem dX8_init_33 : decode cX8_init 33 = .ok (.putfield 19, 3) := by decide +kernel
theorem dX8_init_36 : decode cX8_init 36 = .ok (.aload_n 0, 1) := by decide +kernel
theorem dX8_init_37 : decode cX8_init 37 = .ok (.bipush 10, 2) := by decide +kernel
theorem dX8_init_39 : decode cX8_init 39 = .ok (.newarray .int, 2) := by decide +kernel
theorem dX8_init_41 : decode cX8_init 41 = .ok (.putfield 22, 3) := by decide +kernel
theorem dX8_init_44 : decode cX8_init 44 = .ok (.aload_n 0, 1) := by decide +kernel
theorem dX8_init_45 : decode cX8_init 45 = .ok (.bipush 10, 2) := by decide +kernel
theorem dX8_init_47 : decode cX8_init 47 = .ok (.newarray .int, 2) := by decide +kernel
theorem dX8_init_49 : decode cX8_init 49 = .ok (.putfield 25, 3) := by decide +kernel
theorem dX8_init_52 : decode cX8_init 52 = .ok (.aload_n 0, 1) := by decide +kernel
theorem dX8_init_53 : decode cX8_init 53 = .ok (.bipush 10, 2) := by decide +kernel
theorem dX8_init_55 : decode cX8_init 55 = .ok (.newarray .int, 2) := by decide +kernel
theorem dX8_init_57 : decode cX8_init 57 = .ok (.putfield 28, 3) := by decide +kernel
theorem dX8_init_60 : decode cX8_init 60 = .ok (.aload_n 0, 1) := by decide +kernel
theorem dX8_init_61 : decode cX8_init 61 = .ok (.bipush 56, 2) := by decide +kernel
theorem dX8_init_63 : decode cX8_init 63 = .ok (.newarray .int, 2) := by decide +kernel
theorem dX8_init_65 : decode cX8_init 65 = .ok (.putfield 31, 3) := by decide +kernel
theorem dX8_init_68 : decode cX8_init 68 = .ok (.aload_n 0, 1) := by decide +kernel
theorem dX8_init_69 : decode cX8_init 69 = .ok (.bipush 24, 2) := by decide +kernel
theorem dX8_init_71 : decode cX8_init 71 = .ok (.newarray .int, 2) := by decide +kernel
theorem dX8_init_73 : decode cX8_init 73 = .ok (.putfield 34, 3) := by decide +kernel
theorem dX8_init_76 : decode cX8_init 76 = .ok (.aload_n 0, 1) := by decide +kernel
theorem dX8_init_77 : decode cX8_init 77 = .ok (.bipush 60, 2) := by decide +kernel
theorem dX8_init_79 : decode cX8_init 79 = .ok (.newarray .byte, 2) := by decide +kernel
theorem dX8_init_81 : decode cX8_init 81 = .ok (.putfield 37, 3) := by decide +kernel
theorem dX8_init_84 : decode cX8_init 84 = .ok (.aload_n 0, 1) := by decide +kernel
theorem dX8_init_85 : decode cX8_init 85 = .ok (.iconst 2, 1) := by decide +kernel
theorem dX8_init_86 : decode cX8_init 86 = .ok (.newarray .int, 2) := by decide +kernel
theorem dX8_init_88 : decode cX8_init 88 = .ok (.putfield 41, 3) := by decide +kernel
theorem dX8_init_91 : decode cX8_init 91 = .ok (.aload_n 0, 1) := by decide +kernel
theorem dX8_init_92 : decode cX8_init 92 = .ok (.sipush 720, 3) := by decide +kernel
theorem dX8_init_95 : decode cX8_init 95 = .ok (.newarray .byte, 2) := by decide +kernel
theorem dX8_init_97 : decode cX8_init 97 = .ok (.putfield 44, 3) := by decide +kernel
theorem dX8_init_100 : decode cX8_init 100 = .ok (.aload_n 0, 1) := by decide +kernel
theorem dX8_init_101 : decode cX8_init 101 = .ok (.bipush 12, 2) := by decide +kernel
theorem dX8_init_103 : decode cX8_init 103 = .ok (.newarray .int, 2) := by decide +kernel
theorem dX8_init_105 : decode cX8_init 105 = .ok (.putfield 47, 3) := by decide +kernel
theorem dX8_init_108 : decode cX8_init 108 = .ok (.aload_n 0, 1) := by decide +kernel
theorem dX8_init_109 : decode cX8_init 109 = .ok (.bipush 30, 2) := by decide +kernel
theorem dX8_init_111 : decode cX8_init 111 = .ok (.newarray .int, 2) := by decide +kernel
theorem dX8_init_113 : decode cX8_init 113 = .ok (.putfield 50, 3) := by decide +kernel
theorem dX8_init_116 : decode cX8_init 116 = .ok (.aload_n 0, 1) := by decide +kernel
theorem dX8_init_117 : decode cX8_init 117 = .ok (.iconst 4, 1) := by decide +kernel
theorem dX8_init_118 : decode cX8_init 118 = .ok (.newarray .int, 2) := by decide +kernel
theorem dX8_init_120 : decode cX8_init 120 = .ok (.putfield 53, 3) := by decide +kernel
theorem dX8_init_123 : decode cX8_init 123 = .ok (.aload_n 0, 1) := by decide +kernel
theorem dX8_init_124 : decode cX8_init 124 = .ok (.bipush 61, 2) := by decide +kernel
theorem dX8_init_126 : decode cX8_init 126 = .ok (.newarray .boolean, 2) := by decide +kernel
theorem dX8_init_128 : decode cX8_init 128 = .ok (.putfield 56, 3) := by decide +kernel
theorem dX8_init_131 : decode cX8_init 131 = .ok (.aload_n 0, 1) := by decide +kernel
theorem dX8_init_132 : decode cX8_init 132 = .ok (.bipush 61, 2) := by decide +kernel
theorem dX8_init_134 : decode cX8_init 134 = .ok (.newarray .boolean, 2) := by decide +kernel
theorem dX8_init_136 : decode cX8_init 136 = .ok (.putfield 60, 3) := by decide +kernel
theorem dX8_init_139 : decode cX8_init 139 = .ok (.aload_n 0, 1) := by decide +kernel
theorem dX8_init_140 : decode cX8_init 140 = .ok (.bipush 61, 2) := by decide +kernel
theorem dX8_init_142 : decode cX8_init 142 = .ok (.newarray .boolean, 2) := by decide +kernel
theorem dX8_init_144 : decode cX8_init 144 = .ok (.putfield 63, 3) := by decide +kernel
theorem dX8_init_147 : decode cX8_init 147 = .ok (.aload_n 0, 1) := by decide +kernel
theorem dX8_init_148 : decode cX8_init 148 = .ok (.bipush 121, 2) := by decide +kernel
theorem dX8_init_150 : decode cX8_init 150 = .ok (.newarray .int, 2) := by decide +kernel
theorem dX8_init_152 : decode cX8_init 152 = .ok (.putfield 66, 3) := by decide +kernel
theorem dX8_init_155 : decode cX8_init 155 = .ok (.aload_n 0, 1) := by decide +kernel
theorem dX8_init_156 : decode cX8_init 156 = .ok (.bipush 10, 2) := by decide +kernel
theorem dX8_init_158 : decode cX8_init 158 = .ok (.newarray .int, 2) := by decide +kernel
theorem dX8_init_160 : decode cX8_init 160 = .ok (.putfield 69, 3) := by decide +kernel
theorem dX8_init_163 : decode cX8_init 163 = .ok (.aload_n 0, 1) := by decide +kernel
theorem dX8_init_164 : decode cX8_init 164 = .ok (.bipush 10, 2) := by decide +kernel
theorem dX8_init_166 : decode cX8_init 166 = .ok (.newarray .int, 2) := by decide +kernel
theorem dX8_init_168 : decode cX8_init 168 = .ok (.putfield 72, 3) := by decide +kernel
theorem dX8_init_171 : decode cX8_init 171 = .ok (.aload_n 0, 1) := by decide +kernel
theorem dX8_init_172 : decode cX8_init 172 = .ok (.bipush 10, 2) := by decide +kernel
theorem dX8_init_174 : decode cX8_init 174 = .ok (.newarray .int, 2) := by decide +kernel
theorem dX8_init_176 : decode cX8_init 176 = .ok (.putfield 75, 3) := by decide +kernel
theorem dX8_init_179 : decode cX8_init 179 = .ok (.aload_n 0, 1) := by decide +kernel
theorem dX8_init_180 : decode cX8_init 180 = .ok (.bipush 10, 2) := by decide +kernel
theorem dX8_init_182 : decode cX8_init 182 = .ok (.newarray .int, 2) := by decide +kernel
theorem dX8_init_184 : decode cX8_init 184 = .ok (.putfield 78, 3) := by decide +kernel
theorem dX8_init_187 : decode cX8_init 187 = .ok (.aload_n 0, 1) := by decide +kernel
theorem dX8_init_188 : decode cX8_init 188 = .ok (.bipush 10, 2) := by decide +kernel
theorem dX8_init_190 : decode cX8_init 190 = .ok (.newarray .int, 2) := by decide +kernel
theorem dX8_init_192 : decode cX8_init 192 = .ok (.putfield 81, 3) := by decide +kernel
theorem dX8_init_195 : decode cX8_init 195 = .ok (.return_, 1) := by decide +kernel
theorem dX8_isEdition_0 : decode cX8_isEdition 0 = .ok (.iload_n 0, 1) := by decide +kernel
theorem dX8_isEdition_1 : decode cX8_isEdition 1 = .ok (.iconst 0, 1) := by decide +kernel
theorem dX8_isEdition_2 : decode cX8_isEdition 2 = .ok (.bipush 9, 2) := by decide +kernel
theorem dX8_isEdition_4 : decode cX8_isEdition 4 = .ok (.invokestatic 88, 3) := by decide +kernel
theorem dX8_isEdition_7 : decode cX8_isEdition 7 = .ok (.ireturn, 1) := by decide +kernel
theorem dX8_isKnown_0 : decode cX8_isKnown 0 = .ok (.aload_n 0, 1) := by decide +kernel
theorem dX8_isKnown_1 : decode cX8_isKnown 1 = .ok (.getfield 22, 3) := by decide +kernel
theorem dX8_isKnown_4 : decode cX8_isKnown 4 = .ok (.iload_n 1, 1) := by decide +kernel
theorem dX8_isKnown_5 : decode cX8_isKnown 5 = .ok (.iaload, 1) := by decide +kernel
theorem dX8_isKnown_6 : decode cX8_isKnown 6 = .ok (.iload_n 2, 1) := by decide +kernel
theorem dX8_isKnown_7 : decode cX8_isKnown 7 = .ok (.if_icmp .gt 7, 3) := by decide +kernel
theorem dX8_isKnown_10 : decode cX8_isKnown 10 = .ok (.iconst 1, 1) := by decide +kernel
theorem dX8_isKnown_11 : decode cX8_isKnown 11 = .ok (.goto 4, 3) := by decide +kernel
theorem dX8_isKnown_14 : decode cX8_isKnown 14 = .ok (.iconst 0, 1) := by decide +kernel
theorem dX8_isKnown_15 : decode cX8_isKnown 15 = .ok (.ireturn, 1) := by decide +kernel
theorem dX8_isMisread_0 : decode cX8_isMisread 0 = .ok (.iload_n 0, 1) := by decide +kernel
theorem dX8_isMisread_1 : decode cX8_isMisread 1 = .ok (.iconst 3, 1) := by decide +kernel
theorem dX8_isMisread_2 : decode cX8_isMisread 2 = .ok (.if_icmp .eq 9, 3) := by decide +kernel
theorem dX8_isMisread_5 : decode cX8_isMisread 5 = .ok (.iload_n 0, 1) := by decide +kernel
theorem dX8_isMisread_6 : decode cX8_isMisread 6 = .ok (.bipush 6, 2) := by decide +kernel
theorem dX8_isMisread_8 : decode cX8_isMisread 8 = .ok (.if_icmp .ne 7, 3) := by decide +kernel
theorem dX8_isMisread_11 : decode cX8_isMisread 11 = .ok (.iconst 1, 1) := by decide +kernel
theorem dX8_isMisread_12 : decode cX8_isMisread 12 = .ok (.goto 4, 3) := by decide +kernel
theorem dX8_isMisread_15 : decode cX8_isMisread 15 = .ok (.iconst 0, 1) := by decide +kernel
theorem dX8_isMisread_16 : decode cX8_isMisread 16 = .ok (.ireturn, 1) := by decide +kernel
theorem dX8_isName_0 : decode cX8_isName 0 = .ok (.iload_n 0, 1) := by decide +kernel
theorem dX8_isName_1 : decode cX8_isName 1 = .ok (.bipush 108, 2) := by decide +kernel
theorem dX8_isName_3 : decode cX8_isName 3 = .ok (.if_icmp .eq 21, 3) := by decide +kernel
theorem dX8_isName_6 : decode cX8_isName 6 = .ok (.iload_n 0, 1) := by decide +kernel
theorem dX8_isName_7 : decode cX8_isName 7 = .ok (.bipush 107, 2) := by decide +kernel
theorem dX8_isName_9 : decode cX8_isName 9 = .ok (.if_icmp .eq 15, 3) := by decide +kernel
theorem dX8_isName_12 : decode cX8_isName 12 = .ok (.iload_n 0, 1) := by decide +kernel
theorem dX8_isName_13 : decode cX8_isName 13 = .ok (.bipush 110, 2) := by decide +kernel
theorem dX8_isName_15 : decode cX8_isName 15 = .ok (.if_icmp .eq 9, 3) := by decide +kernel
theorem dX8_isName_18 : decode cX8_isName 18 = .ok (.iload_n 0, 1) := by decide +kernel
theorem dX8_isName_19 : decode cX8_isName 19 = .ok (.bipush 114, 2) := by decide +kernel
theorem dX8_isName_21 : decode cX8_isName 21 = .ok (.if_icmp .ne 7, 3) := by decide +kernel
theorem dX8_isName_24 : decode cX8_isName 24 = .ok (.iconst 1, 1) := by decide +kernel
theorem dX8_isName_25 : decode cX8_isName 25 = .ok (.goto 4, 3) := by decide +kernel
theorem dX8_isName_28 : decode cX8_isName 28 = .ok (.iconst 0, 1) := by decide +kernel
theorem dX8_isName_29 : decode cX8_isName 29 = .ok (.ireturn, 1) := by decide +kernel
theorem dX8_isReign_0 : decode cX8_isReign 0 = .ok (.iload_n 1, 1) := by decide +kernel
theorem dX8_isReign_1 : decode cX8_isReign 1 = .ok (.iconst 0, 1) := by decide +kernel
theorem dX8_isReign_2 : decode cX8_isReign 2 = .ok (.aload_n 0, 1) := by decide +kernel
theorem dX8_isReign_3 : decode cX8_isReign 3 = .ok (.getfield 84, 3) := by decide +kernel
theorem dX8_isReign_6 : decode cX8_isReign 6 = .ok (.iconst 1, 1) := by decide +kernel
theorem dX8_isReign_7 : decode cX8_isReign 7 = .ok (.isub, 1) := by decide +kernel
theorem dX8_isReign_8 : decode cX8_isReign 8 = .ok (.invokestatic 88, 3) := by decide +kernel
theorem dX8_isReign_11 : decode cX8_isReign 11 = .ok (.ireturn, 1) := by decide +kernel
theorem dX8_isSchool_0 : decode cX8_isSchool 0 = .ok (.iload_n 0, 1) := by decide +kernel
theorem dX8_isSchool_1 : decode cX8_isSchool 1 = .ok (.iconst 0, 1) := by decide +kernel
theorem dX8_isSchool_2 : decode cX8_isSchool 2 = .ok (.iconst 1, 1) := by decide +kernel
theorem dX8_isSchool_3 : decode cX8_isSchool 3 = .ok (.invokestatic 88, 3) := by decide +kernel
theorem dX8_isSchool_6 : decode cX8_isSchool 6 = .ok (.ireturn, 1) := by decide +kernel
theorem dX8_isTie_0 : decode cX8_isTie 0 = .ok (.iload_n 1, 1) := by decide +kernel
theorem dX8_isTie_1 : decode cX8_isTie 1 = .ok (.iconst 0, 1) := by decide +kernel
theorem dX8_isTie_2 : decode cX8_isTie 2 = .ok (.aload_n 0, 1) := by decide +kernel
theorem dX8_isTie_3 : decode cX8_isTie 3 = .ok (.getfield 122, 3) := by decide +kernel
theorem dX8_isTie_6 : decode cX8_isTie 6 = .ok (.iconst 1, 1) := by decide +kernel
theorem dX8_isTie_7 : decode cX8_isTie 7 = .ok (.isub, 1) := by decide +kernel
theorem dX8_isTie_8 : decode cX8_isTie 8 = .ok (.invokestatic 88, 3) := by decide +kernel
theorem dX8_isTie_11 : decode cX8_isTie 11 = .ok (.ireturn, 1) := by decide +kernel
theorem dX8_isXth_0 : decode cX8_isXth 0 = .ok (.iload_n 0, 1) := by decide +kernel
theorem dX8_isXth_1 : decode cX8_isXth 1 = .ok (.iconst 1, 1) := by decide +kernel
theorem dX8_isXth_2 : decode cX8_isXth 2 = .ok (.bipush 99, 2) := by decide +kernel
theorem dX8_isXth_4 : decode cX8_isXth 4 = .ok (.invokestatic 88, 3) := by decide +kernel
theorem dX8_isXth_7 : decode cX8_isXth 7 = .ok (.ireturn, 1) := by decide +kernel
theorem dX8_isYear_0 : decode cX8_isYear 0 = .ok (.iload_n 0, 1) := by decide +kernel
theorem dX8_isYear_1 : decode cX8_isYear 1 = .ok (.sipush (-2000), 3) := by decide +kernel
theorem dX8_isYear_4 : decode cX8_isYear 4 = .ok (.sipush 2000, 3) := by decide +kernel
theorem dX8_isYear_7 : decode cX8_isYear 7 = .ok (.invokestatic 88, 3) := by decide +kernel
theorem dX8_isYear_10 : decode cX8_isYear 10 = .ok (.ireturn, 1) := by decide +kernel
theorem dX8_judge_0 : decode cX8_judge 0 = .ok (.iload_n 1, 1) := by decide +kernel
theorem dX8_judge_1 : decode cX8_judge 1 = .ok (.invokestatic 160, 3) := by decide +kernel
theorem dX8_judge_4 : decode cX8_judge 4 = .ok (.ifCond .ne 6, 3) := by decide +kernel
theorem dX8_judge_7 : decode cX8_judge 7 = .ok (.bipush (-101), 2) := by decide +kernel
theorem dX8_judge_9 : decode cX8_judge 9 = .ok (.ireturn, 1) := by decide +kernel
theorem dX8_judge_10 : decode cX8_judge 10 = .ok (.iconst 0, 1) := by decide +kernel
theorem dX8_judge_11 : decode cX8_judge 11 = .ok (.istore_n 2, 1) := by decide +kernel
theorem dX8_judge_12 : decode cX8_judge 12 = .ok (.iload_n 2, 1) := by decide +kernel
theorem dX8_judge_13 : decode cX8_judge 13 = .ok (.aload_n 0, 1) := by decide +kernel
theorem dX8_judge_14 : decode cX8_judge 14 = .ok (.getfield 84, 3) := by decide +kernel
theorem dX8_judge_17 : decode cX8_judge 17 = .ok (.if_icmp .ge 78, 3) := by decide +kernel
theorem dX8_judge_20 : decode cX8_judge 20 = .ok (.aload_n 0, 1) := by decide +kernel
theorem dX8_judge_21 : decode cX8_judge 21 = .ok (.getfield 25, 3) := by decide +kernel
theorem dX8_judge_24 : decode cX8_judge 24 = .ok (.iload_n 2, 1) := by decide +kernel
theorem dX8_judge_25 : decode cX8_judge 25 = .ok (.iaload, 1) := by decide +kernel
theorem dX8_judge_26 : decode cX8_judge 26 = .ok (.istore_n 3, 1) := by decide +kernel
theorem dX8_judge_27 : decode cX8_judge 27 = .ok (.aload_n 0, 1) := by decide +kernel
theorem dX8_judge_28 : decode cX8_judge 28 = .ok (.getfield 13, 3) := by decide +kernel
theorem dX8_judge_31 : decode cX8_judge 31 = .ok (.iload_n 2, 1) := by decide +kernel
theorem dX8_judge_32 : decode cX8_judge 32 = .ok (.iaload, 1) := by decide +kernel
theorem dX8_judge_33 : decode cX8_judge 33 = .ok (.iconst 1, 1) := by decide +kernel
theorem dX8_judge_34 : decode cX8_judge 34 = .ok (.if_icmp .ne 12, 3) := by decide +kernel
theorem dX8_judge_37 : decode cX8_judge 37 = .ok (.aload_n 0, 1) := by decide +kernel
theorem dX8_judge_38 : decode cX8_judge 38 = .ok (.getfield 19, 3) := by decide +kernel
theorem dX8_judge_41 : decode cX8_judge 41 = .ok (.iload_n 2, 1) := by decide +kernel
theorem dX8_judge_42 : decode cX8_judge 42 = .ok (.iaload, 1) := by decide +kernel
theorem dX8_judge_43 : decode cX8_judge 43 = .ok (.goto 4, 3) := by decide +kernel
theorem dX8_judge_46 : decode cX8_judge 46 = .ok (.iconst 0, 1) := by decide +kernel
theorem dX8_judge_47 : decode cX8_judge 47 = .ok (.istore 4, 2) := by decide +kernel
theorem dX8_judge_49 : decode cX8_judge 49 = .ok (.iload_n 3, 1) := by decide +kernel
theorem dX8_judge_50 : decode cX8_judge 50 = .ok (.iconst (-1), 1) := by decide +kernel
theorem dX8_judge_51 : decode cX8_judge 51 = .ok (.if_icmp .eq 38, 3) := by decide +kernel
theorem dX8_judge_54 : decode cX8_judge 54 = .ok (.aload_n 0, 1) := by decide +kernel
theorem dX8_judge_55 : decode cX8_judge 55 = .ok (.iload_n 3, 1) := by decide +kernel
theorem dX8_judge_56 : decode cX8_judge 56 = .ok (.aload_n 0, 1) := by decide +kernel
theorem dX8_judge_57 : decode cX8_judge 57 = .ok (.iload_n 1, 1) := by decide +kernel
theorem dX8_judge_58 : decode cX8_judge 58 = .ok (.iload_n 3, 1) := by decide +kernel
theorem dX8_judge_59 : decode cX8_judge 59 = .ok (.invokevirtual 182, 3) := by decide +kernel
theorem dX8_judge_62 : decode cX8_judge 62 = .ok (.aload_n 0, 1) := by decide +kernel
theorem dX8_judge_63 : decode cX8_judge 63 = .ok (.getfield 28, 3) := by decide +kernel
theorem dX8_judge_66 : decode cX8_judge 66 = .ok (.iload_n 2, 1) := by decide +kernel
theorem dX8_judge_67 : decode cX8_judge 67 = .ok (.iaload, 1) := by decide +kernel
theorem dX8_judge_68 : decode cX8_judge 68 = .ok (.iload 4, 2) := by decide +kernel
theorem dX8_judge_70 : decode cX8_judge 70 = .ok (.iadd, 1) := by decide +kernel
theorem dX8_judge_71 : decode cX8_judge 71 = .ok (.aload_n 0, 1) := by decide +kernel
theorem dX8_judge_72 : decode cX8_judge 72 = .ok (.getfield 28, 3) := by decide +kernel
theorem dX8_judge_75 : decode cX8_judge 75 = .ok (.iload_n 3, 1) := by decide +kernel
theorem dX8_judge_76 : decode cX8_judge 76 = .ok (.iaload, 1) := by decide +kernel
theorem dX8_judge_77 : decode cX8_judge 77 = .ok (.isub, 1) := by decide +kernel
theorem dX8_judge_78 : decode cX8_judge 78 = .ok (.invokevirtual 243, 3) := by decide +kernel
theorem dX8_judge_81 : decode cX8_judge 81 = .ok (.ifCond .ne 8, 3) := by decide +kernel
theorem dX8_judge_84 : decode cX8_judge 84 = .ok (.bipush 100, 2) := by decide +kernel
theorem dX8_judge_86 : decode cX8_judge 86 = .ok (.iload_n 2, 1) := by decide +kernel
theorem dX8_judge_87 : decode cX8_judge 87 = .ok (.iadd, 1) := by decide +kernel
theorem dX8_judge_88 : decode cX8_judge 88 = .ok (.ireturn, 1) := by decide +kernel
theorem dX8_judge_89 : decode cX8_judge 89 = .ok (.iinc 2 1, 3) := by decide +kernel
theorem dX8_judge_92 : decode cX8_judge 92 = .ok (.goto (-80), 3) := by decide +kernel
theorem dX8_judge_95 : decode cX8_judge 95 = .ok (.iconst 0, 1) := by decide +kernel
theorem dX8_judge_96 : decode cX8_judge 96 = .ok (.istore_n 2, 1) := by decide +kernel
theorem dX8_judge_97 : decode cX8_judge 97 = .ok (.iload_n 2, 1) := by decide +kernel
theorem dX8_judge_98 : decode cX8_judge 98 = .ok (.aload_n 0, 1) := by decide +kernel
theorem dX8_judge_99 : decode cX8_judge 99 = .ok (.getfield 122, 3) := by decide +kernel
theorem dX8_judge_102 : decode cX8_judge 102 = .ok (.if_icmp .ge 33, 3) := by decide +kernel
theorem dX8_judge_105 : decode cX8_judge 105 = .ok (.aload_n 0, 1) := by decide +kernel
theorem dX8_judge_106 : decode cX8_judge 106 = .ok (.iload_n 1, 1) := by decide +kernel
theorem dX8_judge_107 : decode cX8_judge 107 = .ok (.iload_n 2, 1) := by decide +kernel
theorem dX8_judge_108 : decode cX8_judge 108 = .ok (.invokevirtual 185, 3) := by decide +kernel
theorem dX8_judge_111 : decode cX8_judge 111 = .ok (.iconst 1, 1) := by decide +kernel
theorem dX8_judge_112 : decode cX8_judge 112 = .ok (.if_icmp .ne 17, 3) := by decide +kernel
theorem dX8_judge_115 : decode cX8_judge 115 = .ok (.aload_n 0, 1) := by decide +kernel
theorem dX8_judge_116 : decode cX8_judge 116 = .ok (.iload_n 2, 1) := by decide +kernel
theorem dX8_judge_117 : decode cX8_judge 117 = .ok (.invokevirtual 246, 3) := by decide +kernel
theorem dX8_judge_120 : decode cX8_judge 120 = .ok (.ifCond .ne 9, 3) := by decide +kernel
theorem dX8_judge_123 : decode cX8_judge 123 = .ok (.sipush 200, 3) := by decide +kernel
theorem dX8_judge_126 : decode cX8_judge 126 = .ok (.iload_n 2, 1) := by decide +kernel
theorem dX8_judge_127 : decode cX8_judge 127 = .ok (.iadd, 1) := by decide +kernel
theorem dX8_judge_128 : decode cX8_judge 128 = .ok (.ireturn, 1) := by decide +kernel
theorem dX8_judge_129 : decode cX8_judge 129 = .ok (.iinc 2 1, 3) := by decide +kernel
theorem dX8_judge_132 : decode cX8_judge 132 = .ok (.goto (-35), 3) := by decide +kernel
theorem dX8_judge_135 : decode cX8_judge 135 = .ok (.iconst (-1), 1) := by decide +kernel
theorem dX8_judge_136 : decode cX8_judge 136 = .ok (.ireturn, 1) := by decide +kernel
theorem dX8_lastOf_0 : decode cX8_lastOf 0 = .ok (.iconst (-1), 1) := by decide +kernel
theorem dX8_lastOf_1 : decode cX8_lastOf 1 = .ok (.istore_n 2, 1) := by decide +kernel
theorem dX8_lastOf_2 : decode cX8_lastOf 2 = .ok (.iconst 0, 1) := by decide +kernel
theorem dX8_lastOf_3 : decode cX8_lastOf 3 = .ok (.istore_n 3, 1) := by decide +kernel
theorem dX8_lastOf_4 : decode cX8_lastOf 4 = .ok (.iload_n 3, 1) := by decide +kernel
theorem dX8_lastOf_5 : decode cX8_lastOf 5 = .ok (.aload_n 0, 1) := by decide +kernel
theorem dX8_lastOf_6 : decode cX8_lastOf 6 = .ok (.getfield 84, 3) := by decide +kernel
theorem dX8_lastOf_9 : decode cX8_lastOf 9 = .ok (.if_icmp .ge 25, 3) := by decide +kernel
theorem dX8_lastOf_12 : decode cX8_lastOf 12 = .ok (.aload_n 0, 1) := by decide +kernel
theorem dX8_lastOf_13 : decode cX8_lastOf 13 = .ok (.getfield 7, 3) := by decide +kernel
theorem dX8_lastOf_16 : decode cX8_lastOf 16 = .ok (.iload_n 3, 1) := by decide +kernel
theorem dX8_lastOf_17 : decode cX8_lastOf 17 = .ok (.iaload, 1) := by decide +kernel
theorem dX8_lastOf_18 : decode cX8_lastOf 18 = .ok (.iload_n 1, 1) := by decide +kernel
theorem dX8_lastOf_19 : decode cX8_lastOf 19 = .ok (.if_icmp .ne 7, 3) := by decide +kernel
theorem dX8_lastOf_22 : decode cX8_lastOf 22 = .ok (.iload_n 3, 1) := by decide +kernel
theorem dX8_lastOf_23 : decode cX8_lastOf 23 = .ok (.goto 4, 3) := by decide +kernel
theorem dX8_lastOf_26 : decode cX8_lastOf 26 = .ok (.iload_n 2, 1) := by decide +kernel
theorem dX8_lastOf_27 : decode cX8_lastOf 27 = .ok (.istore_n 2, 1) := by decide +kernel
theorem dX8_lastOf_28 : decode cX8_lastOf 28 = .ok (.iinc 3 1, 3) := by decide +kernel
theorem dX8_lastOf_31 : decode cX8_lastOf 31 = .ok (.goto (-27), 3) := by decide +kernel
theorem dX8_lastOf_34 : decode cX8_lastOf 34 = .ok (.iload_n 2, 1) := by decide +kernel
theorem dX8_lastOf_35 : decode cX8_lastOf 35 = .ok (.ireturn, 1) := by decide +kernel
theorem dX8_lasts_0 : decode cX8_lasts 0 = .ok (.aload_n 0, 1) := by decide +kernel
theorem dX8_lasts_1 : decode cX8_lasts 1 = .ok (.iload_n 1, 1) := by decide +kernel
theorem dX8_lasts_2 : decode cX8_lasts 2 = .ok (.invokevirtual 103, 3) := by decide +kernel
theorem dX8_lasts_5 : decode cX8_lasts 5 = .ok (.ifCond .ne 6, 3) := by decide +kernel
theorem dX8_lasts_8 : decode cX8_lasts 8 = .ok (.bipush (-101), 2) := by decide +kernel
theorem dX8_lasts_10 : decode cX8_lasts 10 = .ok (.ireturn, 1) := by decide +kernel
theorem dX8_lasts_11 : decode cX8_lasts 11 = .ok (.iload_n 2, 1) := by decide +kernel
theorem dX8_lasts_12 : decode cX8_lasts 12 = .ok (.iconst 0, 1) := by decide +kernel
theorem dX8_lasts_13 : decode cX8_lasts 13 = .ok (.iconst 1, 1) := by decide +kernel
theorem dX8_lasts_14 : decode cX8_lasts 14 = .ok (.invokestatic 88, 3) := by decide +kernel
theorem dX8_lasts_17 : decode cX8_lasts 17 = .ok (.ifCond .eq 12, 3) := by decide +kernel
theorem dX8_lasts_20 : decode cX8_lasts 20 = .ok (.iload_n 3, 1) := by decide +kernel
theorem dX8_lasts_21 : decode cX8_lasts 21 = .ok (.iconst 0, 1) := by decide +kernel
theorem dX8_lasts_22 : decode cX8_lasts 22 = .ok (.iconst 2, 1) := by decide +kernel
theorem dX8_lasts_23 : decode cX8_lasts 23 = .ok (.invokestatic 88, 3) := by decide +kernel
theorem dX8_lasts_26 : decode cX8_lasts 26 = .ok (.ifCond .ne 6, 3) := by decide +kernel
theorem dX8_lasts_29 : decode cX8_lasts 29 = .ok (.bipush (-102), 2) := by decide +kernel
theorem dX8_lasts_31 : decode cX8_lasts 31 = .ok (.ireturn, 1) := by decide +kernel
theorem dX8_lasts_32 : decode cX8_lasts 32 = .ok (.iload_n 3, 1) := by decide +kernel
theorem dX8_lasts_33 : decode cX8_lasts 33 = .ok (.ifCond .ne 12, 3) := by decide +kernel
theorem dX8_lasts_36 : decode cX8_lasts 36 = .ok (.aload_n 0, 1) := by decide +kernel
theorem dX8_lasts_37 : decode cX8_lasts 37 = .ok (.iload_n 1, 1) := by decide +kernel
theorem dX8_lasts_38 : decode cX8_lasts 38 = .ok (.iload_n 2, 1) := by decide +kernel
theorem dX8_lasts_39 : decode cX8_lasts 39 = .ok (.invokevirtual 116, 3) := by decide +kernel
theorem dX8_lasts_42 : decode cX8_lasts 42 = .ok (.goto 23, 3) := by decide +kernel
theorem dX8_lasts_45 : decode cX8_lasts 45 = .ok (.iload_n 3, 1) := by decide +kernel
theorem dX8_lasts_46 : decode cX8_lasts 46 = .ok (.iconst 1, 1) := by decide +kernel
theorem dX8_lasts_47 : decode cX8_lasts 47 = .ok (.if_icmp .ne 12, 3) := by decide +kernel
theorem dX8_lasts_50 : decode cX8_lasts 50 = .ok (.aload_n 0, 1) := by decide +kernel
theorem dX8_lasts_51 : decode cX8_lasts 51 = .ok (.iload_n 1, 1) := by decide +kernel
theorem dX8_lasts_52 : decode cX8_lasts 52 = .ok (.iload_n 2, 1) := by decide +kernel
theorem dX8_lasts_53 : decode cX8_lasts 53 = .ok (.invokevirtual 113, 3) := by decide +kernel
theorem dX8_lasts_56 : decode cX8_lasts 56 = .ok (.goto 9, 3) := by decide +kernel
theorem dX8_lasts_59 : decode cX8_lasts 59 = .ok (.aload_n 0, 1) := by decide +kernel
theorem dX8_lasts_60 : decode cX8_lasts 60 = .ok (.iload_n 1, 1) := by decide +kernel
theorem dX8_lasts_61 : decode cX8_lasts 61 = .ok (.iload_n 2, 1) := by decide +kernel
theorem dX8_lasts_62 : decode cX8_lasts 62 = .ok (.invokevirtual 119, 3) := by decide +kernel
theorem dX8_lasts_65 : decode cX8_lasts 65 = .ok (.ireturn, 1) := by decide +kernel
theorem dX8_layChoice_0 : decode cX8_layChoice 0 = .ok (.iconst 0, 1) := by decide +kernel
theorem dX8_layChoice_1 : decode cX8_layChoice 1 = .ok (.istore_n 3, 1) := by decide +kernel
theorem dX8_layChoice_2 : decode cX8_layChoice 2 = .ok (.iconst 1, 1) := by decide +kernel
theorem dX8_layChoice_3 : decode cX8_layChoice 3 = .ok (.istore 4, 2) := by decide +kernel
theorem dX8_layChoice_5 : decode cX8_layChoice 5 = .ok (.iconst 0, 1) := by decide +kernel
theorem dX8_layChoice_6 : decode cX8_layChoice 6 = .ok (.istore 5, 2) := by decide +kernel
theorem dX8_layChoice_8 : decode cX8_layChoice 8 = .ok (.iload 5, 2) := by decide +kernel
theorem dX8_layChoice_10 : decode cX8_layChoice 10 = .ok (.bipush 121, 2) := by decide +kernel
theorem dX8_layChoice_12 : decode cX8_layChoice 12 = .ok (.if_icmp .ge 30, 3) := by decide +kernel
theorem dX8_layChoice_15 : decode cX8_layChoice 15 = .ok (.aload_n 0, 1) := by decide +kernel
theorem dX8_layChoice_16 : decode cX8_layChoice 16 = .ok (.getfield 66, 3) := by decide +kernel
theorem dX8_layChoice_19 : decode cX8_layChoice 19 = .ok (.iload 5, 2) := by decide +kernel
theorem dX8_layChoice_21 : decode cX8_layChoice 21 = .ok (.iload 5, 2) := by decide +kernel
theorem dX8_layChoice_23 : decode cX8_layChoice 23 = .ok (.bipush 12, 2) := by decide +kernel
theorem dX8_layChoice_25 : decode cX8_layChoice 25 = .ok (.irem, 1) := by decide +kernel
theorem dX8_layChoice_26 : decode cX8_layChoice 26 = .ok (.ifCond .ne 7, 3) := by decide +kernel
theorem dX8_layChoice_29 : decode cX8_layChoice 29 = .ok (.iconst 0, 1) := by decide +kernel
theorem dX8_layChoice_30 : decode cX8_layChoice 30 = .ok (.goto 5, 3) := by decide +kernel
theorem dX8_layChoice_33 : decode cX8_layChoice 33 = .ok (.ldc 192, 2) := by decide +kernel
theorem dX8_layChoice_35 : decode cX8_layChoice 35 = .ok (.iastore, 1) := by decide +kernel
theorem dX8_layChoice_36 : decode cX8_layChoice 36 = .ok (.iinc 5 1, 3) := by decide +kernel
theorem dX8_layChoice_39 : decode cX8_layChoice 39 = .ok (.goto (-31), 3) := by decide +kernel
theorem dX8_layChoice_42 : decode cX8_layChoice 42 = .ok (.iconst 0, 1) := by decide +kernel
theorem dX8_layChoice_43 : decode cX8_layChoice 43 = .ok (.istore 5, 2) := by decide +kernel
theorem dX8_layChoice_45 : decode cX8_layChoice 45 = .ok (.iload 5, 2) := by decide +kernel
theorem dX8_layChoice_47 : decode cX8_layChoice 47 = .ok (.aload_n 0, 1) := by decide +kernel
theorem dX8_layChoice_48 : decode cX8_layChoice 48 = .ok (.getfield 84, 3) := by decide +kernel
theorem dX8_layChoice_51 : decode cX8_layChoice 51 = .ok (.if_icmp .ge 97, 3) := by decide +kernel
theorem dX8_layChoice_54 : decode cX8_layChoice 54 = .ok (.iload_n 2, 1) := by decide +kernel
theorem dX8_layChoice_55 : decode cX8_layChoice 55 = .ok (.iload_n 3, 1) := by decide +kernel
theorem dX8_layChoice_56 : decode cX8_layChoice 56 = .ok (.ishr, 1) := by decide +kernel
theorem dX8_layChoice_57 : decode cX8_layChoice 57 = .ok (.iconst 1, 1) := by decide +kernel
theorem dX8_layChoice_58 : decode cX8_layChoice 58 = .ok (.iand, 1) := by decide +kernel
theorem dX8_layChoice_59 : decode cX8_layChoice 59 = .ok (.istore 6, 2) := by decide +kernel
theorem dX8_layChoice_61 : decode cX8_layChoice 61 = .ok (.aload_n 0, 1) := by decide +kernel
theorem dX8_layChoice_62 : decode cX8_layChoice 62 = .ok (.getfield 13, 3) := by decide +kernel
theorem dX8_layChoice_65 : decode cX8_layChoice 65 = .ok (.iload 5, 2) := by decide +kernel
theorem dX8_layChoice_67 : decode cX8_layChoice 67 = .ok (.iaload, 1) := by decide +kernel
theorem dX8_layChoice_68 : decode cX8_layChoice 68 = .ok (.invokestatic 100, 3) := by decide +kernel
theorem dX8_layChoice_71 : decode cX8_layChoice 71 = .ok (.istore 7, 2) := by decide +kernel
theorem dX8_layChoice_73 : decode cX8_layChoice 73 = .ok (.iload_n 3, 1) := by decide +kernel
theorem dX8_layChoice_74 : decode cX8_layChoice 74 = .ok (.iload 7, 2) := by decide +kernel
theorem dX8_layChoice_76 : decode cX8_layChoice 76 = .ok (.ifCond .eq 7, 3) := by decide +kernel
theorem dX8_layChoice_79 : decode cX8_layChoice 79 = .ok (.iconst 1, 1) := by decide +kernel
theorem dX8_layChoice_80 : decode cX8_layChoice 80 = .ok (.goto 4, 3) := by decide +kernel
theorem dX8_layChoice_83 : decode cX8_layChoice 83 = .ok (.iconst 0, 1) := by decide +kernel
theorem dX8_layChoice_84 : decode cX8_layChoice 84 = .ok (.iadd, 1) := by decide +kernel
theorem dX8_layChoice_85 : decode cX8_layChoice 85 = .ok (.istore_n 3, 1) := by decide +kernel
theorem dX8_layChoice_86 : decode cX8_layChoice 86 = .ok (.iload 4, 2) := by decide +kernel
theorem dX8_layChoice_88 : decode cX8_layChoice 88 = .ok (.ifCond .eq 27, 3) := by decide +kernel
theorem dX8_layChoice_91 : decode cX8_layChoice 91 = .ok (.iload 7, 2) := by decide +kernel
theorem dX8_layChoice_93 : decode cX8_layChoice 93 = .ok (.ifCond .eq 18, 3) := by decide +kernel
theorem dX8_layChoice_96 : decode cX8_layChoice 96 = .ok (.iload 6, 2) := by decide +kernel
theorem dX8_layChoice_98 : decode cX8_layChoice 98 = .ok (.ifCond .eq 13, 3) := by decide +kernel
theorem dX8_layChoice_101 : decode cX8_layChoice 101 = .ok (.aload_n 0, 1) := by decide +kernel
theorem dX8_layChoice_102 : decode cX8_layChoice 102 = .ok (.iload 5, 2) := by decide +kernel
theorem dX8_layChoice_104 : decode cX8_layChoice 104 = .ok (.iload_n 1, 1) := by decide +kernel
theorem dX8_layChoice_105 : decode cX8_layChoice 105 = .ok (.invokevirtual 188, 3) := by decide +kernel
theorem dX8_layChoice_108 : decode cX8_layChoice 108 = .ok (.ifCond .eq 7, 3) := by decide +kernel
theorem dX8_layChoice_111 : decode cX8_layChoice 111 = .ok (.iconst 1, 1) := by decide +kernel
theorem dX8_layChoice_112 : decode cX8_layChoice 112 = .ok (.goto 4, 3) := by decide +kernel
theorem dX8_layChoice_115 : decode cX8_layChoice 115 = .ok (.iconst 0, 1) := by decide +kernel
theorem dX8_layChoice_116 : decode cX8_layChoice 116 = .ok (.istore 4, 2) := by decide +kernel
theorem dX8_layChoice_118 : decode cX8_layChoice 118 = .ok (.aload_n 0, 1) := by decide +kernel
theorem dX8_layChoice_119 : decode cX8_layChoice 119 = .ok (.iload 5, 2) := by decide +kernel
theorem dX8_layChoice_121 : decode cX8_layChoice 121 = .ok (.iload_n 1, 1) := by decide +kernel
theorem dX8_layChoice_122 : decode cX8_layChoice 122 = .ok (.invokevirtual 188, 3) := by decide +kernel
theorem dX8_layChoice_125 : decode cX8_layChoice 125 = .ok (.ifCond .eq 17, 3) := by decide +kernel
theorem dX8_layChoice_128 : decode cX8_layChoice 128 = .ok (.aload_n 0, 1) := by decide +kernel
theorem dX8_layChoice_129 : decode cX8_layChoice 129 = .ok (.bipush 10, 2) := by decide +kernel
theorem dX8_layChoice_131 : decode cX8_layChoice 131 = .ok (.iload 5, 2) := by decide +kernel
theorem dX8_layChoice_133 : decode cX8_layChoice 133 = .ok (.sipush (-2000), 3) := by decide +kernel
theorem dX8_layChoice_136 : decode cX8_layChoice 136 = .ok (.sipush 2000, 3) := by decide +kernel
theorem dX8_layChoice_139 : decode cX8_layChoice 139 = .ok (.invokevirtual 193, 3) := by decide +kernel
theorem dX8_layChoice_142 : decode cX8_layChoice 142 = .ok (.iinc 5 1, 3) := by decide +kernel
theorem dX8_layChoice_145 : decode cX8_layChoice 145 = .ok (.goto (-100), 3) := by decide +kernel
theorem dX8_layChoice_148 : decode cX8_layChoice 148 = .ok (.iload 4, 2) := by decide +kernel
theorem dX8_layChoice_150 : decode cX8_layChoice 150 = .ok (.ifCond .eq 16, 3) := by decide +kernel
theorem dX8_layChoice_153 : decode cX8_layChoice 153 = .ok (.iload_n 2, 1) := by decide +kernel
theorem dX8_layChoice_154 : decode cX8_layChoice 154 = .ok (.bipush 7, 2) := by decide +kernel
theorem dX8_layChoice_156 : decode cX8_layChoice 156 = .ok (.iand, 1) := by decide +kernel
theorem dX8_layChoice_157 : decode cX8_layChoice 157 = .ok (.iload_n 3, 1) := by decide +kernel
theorem dX8_layChoice_158 : decode cX8_layChoice 158 = .ok (.ishr, 1) := by decide +kernel
theorem dX8_layChoice_159 : decode cX8_layChoice 159 = .ok (.ifCond .ne 7, 3) := by decide +kernel
theorem dX8_layChoice_162 : decode cX8_layChoice 162 = .ok (.iconst 1, 1) := by decide +kernel
theorem dX8_layChoice_163 : decode cX8_layChoice 163 = .ok (.goto 4, 3) := by decide +kernel
theorem dX8_layChoice_166 : decode cX8_layChoice 166 = .ok (.iconst 0, 1) := by decide +kernel
theorem dX8_layChoice_167 : decode cX8_layChoice 167 = .ok (.istore 4, 2) := by decide +kernel
theorem dX8_layChoice_169 : decode cX8_layChoice 169 = .ok (.iconst 0, 1) := by decide +kernel
theorem dX8_layChoice_170 : decode cX8_layChoice 170 = .ok (.istore 5, 2) := by decide +kernel
theorem dX8_layChoice_172 : decode cX8_layChoice 172 = .ok (.iload 5, 2) := by decide +kernel
theorem dX8_layChoice_174 : decode cX8_layChoice 174 = .ok (.aload_n 0, 1) := by decide +kernel
theorem dX8_layChoice_175 : decode cX8_layChoice 175 = .ok (.getfield 84, 3) := by decide +kernel
theorem dX8_layChoice_178 : decode cX8_layChoice 178 = .ok (.if_icmp .ge 170, 3) := by decide +kernel
theorem dX8_layChoice_181 : decode cX8_layChoice 181 = .ok (.aload_n 0, 1) := by decide +kernel
theorem dX8_layChoice_182 : decode cX8_layChoice 182 = .ok (.getfield 25, 3) := by decide +kernel
theorem dX8_layChoice_185 : decode cX8_layChoice 185 = .ok (.iload 5, 2) := by decide +kernel
theorem dX8_layChoice_187 : decode cX8_layChoice 187 = .ok (.iaload, 1) := by decide +kernel
theorem dX8_layChoice_188 : decode cX8_layChoice 188 = .ok (.istore 6, 2) := by decide +kernel
theorem dX8_layChoice_190 : decode cX8_layChoice 190 = .ok (.iload 6, 2) := by decide +kernel
theorem dX8_layChoice_192 : decode cX8_layChoice 192 = .ok (.iconst (-1), 1) := by decide +kernel
theorem dX8_layChoice_193 : decode cX8_layChoice 193 = .ok (.if_icmp .eq 149, 3) := by decide +kernel
theorem dX8_layChoice_196 : decode cX8_layChoice 196 = .ok (.aload_n 0, 1) := by decide +kernel
theorem dX8_layChoice_197 : decode cX8_layChoice 197 = .ok (.iload 5, 2) := by decide +kernel
theorem dX8_layChoice_199 : decode cX8_layChoice 199 = .ok (.iload_n 1, 1) := by decide +kernel
theorem dX8_layChoice_200 : decode cX8_layChoice 200 = .ok (.invokevirtual 188, 3) := by decide +kernel
theorem dX8_layChoice_203 : decode cX8_layChoice 203 = .ok (.ifCond .eq 139, 3) := by decide +kernel
theorem dX8_layChoice_206 : decode cX8_layChoice 206 = .ok (.aload_n 0, 1) := by decide +kernel
theorem dX8_layChoice_207 : decode cX8_layChoice 207 = .ok (.getfield 13, 3) := by decide +kernel
theorem dX8_layChoice_210 : decode cX8_layChoice 210 = .ok (.iload 5, 2) := by decide +kernel
theorem dX8_layChoice_212 : decode cX8_layChoice 212 = .ok (.iaload, 1) := by decide +kernel
theorem dX8_layChoice_213 : decode cX8_layChoice 213 = .ok (.iconst 1, 1) := by decide +kernel
theorem dX8_layChoice_214 : decode cX8_layChoice 214 = .ok (.if_icmp .ne 13, 3) := by decide +kernel
theorem dX8_layChoice_217 : decode cX8_layChoice 217 = .ok (.aload_n 0, 1) := by decide +kernel
theorem dX8_layChoice_218 : decode cX8_layChoice 218 = .ok (.getfield 19, 3) := by decide +kernel
theorem dX8_layChoice_221 : decode cX8_layChoice 221 = .ok (.iload 5, 2) := by decide +kernel
theorem dX8_layChoice_223 : decode cX8_layChoice 223 = .ok (.iaload, 1) := by decide +kernel
theorem dX8_layChoice_224 : decode cX8_layChoice 224 = .ok (.goto 4, 3) := by decide +kernel
theorem dX8_layChoice_227 : decode cX8_layChoice 227 = .ok (.iconst 0, 1) := by decide +kernel
theorem dX8_layChoice_228 : decode cX8_layChoice 228 = .ok (.istore 7, 2) := by decide +kernel
theorem dX8_layChoice_230 : decode cX8_layChoice 230 = .ok (.aload_n 0, 1) := by decide +kernel
theorem dX8_layChoice_231 : decode cX8_layChoice 231 = .ok (.iload 6, 2) := by decide +kernel
theorem dX8_layChoice_233 : decode cX8_layChoice 233 = .ok (.aload_n 0, 1) := by decide +kernel
theorem dX8_layChoice_234 : decode cX8_layChoice 234 = .ok (.getfield 69, 3) := by decide +kernel
theorem dX8_layChoice_237 : decode cX8_layChoice 237 = .ok (.iload 6, 2) := by decide +kernel
theorem dX8_layChoice_239 : decode cX8_layChoice 239 = .ok (.iaload, 1) := by decide +kernel
theorem dX8_layChoice_240 : decode cX8_layChoice 240 = .ok (.invokevirtual 116, 3) := by decide +kernel
theorem dX8_layChoice_243 : decode cX8_layChoice 243 = .ok (.istore 8, 2) := by decide +kernel
theorem dX8_layChoice_245 : decode cX8_layChoice 245 = .ok (.aload_n 0, 1) := by decide +kernel
theorem dX8_layChoice_246 : decode cX8_layChoice 246 = .ok (.iload 6, 2) := by decide +kernel
theorem dX8_layChoice_248 : decode cX8_layChoice 248 = .ok (.aload_n 0, 1) := by decide +kernel
theorem dX8_layChoice_249 : decode cX8_layChoice 249 = .ok (.getfield 69, 3) := by decide +kernel
theorem dX8_layChoice_252 : decode cX8_layChoice 252 = .ok (.iload 6, 2) := by decide +kernel
theorem dX8_layChoice_254 : decode cX8_layChoice 254 = .ok (.iaload, 1) := by decide +kernel
theorem dX8_layChoice_255 : decode cX8_layChoice 255 = .ok (.invokevirtual 113, 3) := by decide +kernel
theorem dX8_layChoice_258 : decode cX8_layChoice 258 = .ok (.istore 9, 2) := by decide +kernel
theorem dX8_layChoice_260 : decode cX8_layChoice 260 = .ok (.aload_n 0, 1) := by decide +kernel
theorem dX8_layChoice_261 : decode cX8_layChoice 261 = .ok (.getfield 13, 3) := by decide +kernel
theorem dX8_layChoice_264 : decode cX8_layChoice 264 = .ok (.iload 6, 2) := by decide +kernel
theorem dX8_layChoice_266 : decode cX8_layChoice 266 = .ok (.iaload, 1) := by decide +kernel
theorem dX8_layChoice_267 : decode cX8_layChoice 267 = .ok (.invokestatic 100, 3) := by decide +kernel
theorem dX8_layChoice_270 : decode cX8_layChoice 270 = .ok (.ifCond .eq 54, 3) := by decide +kernel
theorem dX8_layChoice_273 : decode cX8_layChoice 273 = .ok (.iload_n 2, 1) := by decide +kernel
theorem dX8_layChoice_274 : decode cX8_layChoice 274 = .ok (.aload_n 0, 1) := by decide +kernel
theorem dX8_layChoice_275 : decode cX8_layChoice 275 = .ok (.iload 6, 2) := by decide +kernel
theorem dX8_layChoice_277 : decode cX8_layChoice 277 = .ok (.invokevirtual 197, 3) := by decide +kernel
theorem dX8_layChoice_280 : decode cX8_layChoice 280 = .ok (.ishr, 1) := by decide +kernel
theorem dX8_layChoice_281 : decode cX8_layChoice 281 = .ok (.iconst 1, 1) := by decide +kernel
theorem dX8_layChoice_282 : decode cX8_layChoice 282 = .ok (.iand, 1) := by decide +kernel
theorem dX8_layChoice_283 : decode cX8_layChoice 283 = .ok (.iconst 1, 1) := by decide +kernel
theorem dX8_layChoice_284 : decode cX8_layChoice 284 = .ok (.if_icmp .ne 19, 3) := by decide +kernel
theorem dX8_layChoice_287 : decode cX8_layChoice 287 = .ok (.aload_n 0, 1) := by decide +kernel
theorem dX8_layChoice_288 : decode cX8_layChoice 288 = .ok (.iload 6, 2) := by decide +kernel
theorem dX8_layChoice_290 : decode cX8_layChoice 290 = .ok (.aload_n 0, 1) := by decide +kernel
theorem dX8_layChoice_291 : decode cX8_layChoice 291 = .ok (.getfield 69, 3) := by decide +kernel
theorem dX8_layChoice_294 : decode cX8_layChoice 294 = .ok (.iload 6, 2) := by decide +kernel
theorem dX8_layChoice_296 : decode cX8_layChoice 296 = .ok (.iaload, 1) := by decide +kernel
theorem dX8_layChoice_297 : decode cX8_layChoice 297 = .ok (.invokevirtual 110, 3) := by decide +kernel
theorem dX8_layChoice_300 : decode cX8_layChoice 300 = .ok (.goto 18, 3) := by decide +kernel
theorem dX8_layChoice_303 : decode cX8_layChoice 303 = .ok (.aload_n 0, 1) := by decide +kernel
theorem dX8_layChoice_304 : decode cX8_layChoice 304 = .ok (.getfield 16, 3) := by decide +kernel
theorem dX8_layChoice_307 : decode cX8_layChoice 307 = .ok (.iload 6, 2) := by decide +kernel
theorem dX8_layChoice_309 : decode cX8_layChoice 309 = .ok (.iaload, 1) := by decide +kernel
theorem dX8_layChoice_310 : decode cX8_layChoice 310 = .ok (.aload_n 0, 1) := by decide +kernel
theorem dX8_layChoice_311 : decode cX8_layChoice 311 = .ok (.getfield 69, 3) := by decide +kernel
theorem dX8_layChoice_314 : decode cX8_layChoice 314 = .ok (.iload 6, 2) := by decide +kernel
theorem dX8_layChoice_316 : decode cX8_layChoice 316 = .ok (.iaload, 1) := by decide +kernel
theorem dX8_layChoice_317 : decode cX8_layChoice 317 = .ok (.isub, 1) := by decide +kernel
theorem dX8_layChoice_318 : decode cX8_layChoice 318 = .ok (.istore 8, 2) := by decide +kernel
theorem dX8_layChoice_320 : decode cX8_layChoice 320 = .ok (.iload 8, 2) := by decide +kernel
theorem dX8_layChoice_322 : decode cX8_layChoice 322 = .ok (.istore 9, 2) := by decide +kernel
theorem dX8_layChoice_324 : decode cX8_layChoice 324 = .ok (.aload_n 0, 1) := by decide +kernel
theorem dX8_layChoice_325 : decode cX8_layChoice 325 = .ok (.iload 6, 2) := by decide +kernel
theorem dX8_layChoice_327 : decode cX8_layChoice 327 = .ok (.iload 5, 2) := by decide +kernel
theorem dX8_layChoice_329 : decode cX8_layChoice 329 = .ok (.iload 8, 2) := by decide +kernel
theorem dX8_layChoice_331 : decode cX8_layChoice 331 = .ok (.iload 7, 2) := by decide +kernel
theorem dX8_layChoice_333 : decode cX8_layChoice 333 = .ok (.isub, 1) := by decide +kernel
theorem dX8_layChoice_334 : decode cX8_layChoice 334 = .ok (.iload 9, 2) := by decide +kernel
theorem dX8_layChoice_336 : decode cX8_layChoice 336 = .ok (.iload 7, 2) := by decide +kernel
theorem dX8_layChoice_338 : decode cX8_layChoice 338 = .ok (.isub, 1) := by decide +kernel
theorem dX8_layChoice_339 : decode cX8_layChoice 339 = .ok (.invokevirtual 193, 3) := by decide +kernel
theorem dX8_layChoice_342 : decode cX8_layChoice 342 = .ok (.iinc 5 1, 3) := by decide +kernel
theorem dX8_layChoice_345 : decode cX8_layChoice 345 = .ok (.goto (-173), 3) := by decide +kernel
theorem dX8_layChoice_348 : decode cX8_layChoice 348 = .ok (.iload 4, 2) := by decide +kernel
theorem dX8_layChoice_350 : decode cX8_layChoice 350 = .ok (.ireturn, 1) := by decide +kernel
theorem dX8_layTie_0 : decode cX8_layTie 0 = .ok (.aload_n 0, 1) := by decide +kernel
theorem dX8_layTie_1 : decode cX8_layTie 1 = .ok (.getfield 31, 3) := by decide +kernel
theorem dX8_layTie_4 : decode cX8_layTie 4 = .ok (.bipush 7, 2) := by decide +kernel
theorem dX8_layTie_6 : decode cX8_layTie 6 = .ok (.iload_n 1, 1) := by decide +kernel
theorem dX8_layTie_7 : decode cX8_layTie 7 = .ok (.imul, 1) := by decide +kernel
theorem dX8_layTie_8 : decode cX8_layTie 8 = .ok (.iconst 1, 1) := by decide +kernel
theorem dX8_layTie_9 : decode cX8_layTie 9 = .ok (.iadd, 1) := by decide +kernel
theorem dX8_layTie_10 : decode cX8_layTie 10 = .ok (.iaload, 1) := by decide +kernel
theorem dX8_layTie_11 : decode cX8_layTie 11 = .ok (.istore_n 3, 1) := by decide +kernel
theorem dX8_layTie_12 : decode cX8_layTie 12 = .ok (.aload_n 0, 1) := by decide +kernel
theorem dX8_layTie_13 : decode cX8_layTie 13 = .ok (.getfield 31, 3) := by decide +kernel
theorem dX8_layTie_16 : decode cX8_layTie 16 = .ok (.bipush 7, 2) := by decide +kernel
theorem dX8_layTie_18 : decode cX8_layTie 18 = .ok (.iload_n 1, 1) := by decide +kernel
theorem dX8_layTie_19 : decode cX8_layTie 19 = .ok (.imul, 1) := by decide +kernel
theorem dX8_layTie_20 : decode cX8_layTie 20 = .ok (.iconst 2, 1) := by decide +kernel
theorem dX8_layTie_21 : decode cX8_layTie 21 = .ok (.iadd, 1) := by decide +kernel
theorem dX8_layTie_22 : decode cX8_layTie 22 = .ok (.iaload, 1) := by decide +kernel
theorem dX8_layTie_23 : decode cX8_layTie 23 = .ok (.istore 4, 2) := by decide +kernel
theorem dX8_layTie_25 : decode cX8_layTie 25 = .ok (.aload_n 0, 1) := by decide +kernel
theorem dX8_layTie_26 : decode cX8_layTie 26 = .ok (.getfield 31, 3) := by decide +kernel
theorem dX8_layTie_29 : decode cX8_layTie 29 = .ok (.bipush 7, 2) := by decide +kernel
theorem dX8_layTie_31 : decode cX8_layTie 31 = .ok (.iload_n 1, 1) := by decide +kernel
theorem dX8_layTie_32 : decode cX8_layTie 32 = .ok (.imul, 1) := by decide +kernel
theorem dX8_layTie_33 : decode cX8_layTie 33 = .ok (.iconst 3, 1) := by decide +kernel
theorem dX8_layTie_34 : decode cX8_layTie 34 = .ok (.iadd, 1) := by decide +kernel
theorem dX8_layTie_35 : decode cX8_layTie 35 = .ok (.iaload, 1) := by decide +kernel
theorem dX8_layTie_36 : decode cX8_layTie 36 = .ok (.istore 5, 2) := by decide +kernel
theorem dX8_layTie_38 : decode cX8_layTie 38 = .ok (.aload_n 0, 1) := by decide +kernel
theorem dX8_layTie_39 : decode cX8_layTie 39 = .ok (.getfield 31, 3) := by decide +kernel
theorem dX8_layTie_42 : decode cX8_layTie 42 = .ok (.bipush 7, 2) := by decide +kernel
theorem dX8_layTie_44 : decode cX8_layTie 44 = .ok (.iload_n 1, 1) := by decide +kernel
theorem dX8_layTie_45 : decode cX8_layTie 45 = .ok (.imul, 1) := by decide +kernel
theorem dX8_layTie_46 : decode cX8_layTie 46 = .ok (.iconst 4, 1) := by decide +kernel
theorem dX8_layTie_47 : decode cX8_layTie 47 = .ok (.iadd, 1) := by decide +kernel
theorem dX8_layTie_48 : decode cX8_layTie 48 = .ok (.iaload, 1) := by decide +kernel
theorem dX8_layTie_49 : decode cX8_layTie 49 = .ok (.istore 6, 2) := by decide +kernel
theorem dX8_layTie_51 : decode cX8_layTie 51 = .ok (.aload_n 0, 1) := by decide +kernel
theorem dX8_layTie_52 : decode cX8_layTie 52 = .ok (.getfield 31, 3) := by decide +kernel
theorem dX8_layTie_55 : decode cX8_layTie 55 = .ok (.bipush 7, 2) := by decide +kernel
theorem dX8_layTie_57 : decode cX8_layTie 57 = .ok (.iload_n 1, 1) := by decide +kernel
theorem dX8_layTie_58 : decode cX8_layTie 58 = .ok (.imul, 1) := by decide +kernel
theorem dX8_layTie_59 : decode cX8_layTie 59 = .ok (.iconst 5, 1) := by decide +kernel
theorem dX8_layTie_60 : decode cX8_layTie 60 = .ok (.iadd, 1) := by decide +kernel
theorem dX8_layTie_61 : decode cX8_layTie 61 = .ok (.iaload, 1) := by decide +kernel
theorem dX8_layTie_62 : decode cX8_layTie 62 = .ok (.istore 7, 2) := by decide +kernel
theorem dX8_layTie_64 : decode cX8_layTie 64 = .ok (.aload_n 0, 1) := by decide +kernel
theorem dX8_layTie_65 : decode cX8_layTie 65 = .ok (.getfield 31, 3) := by decide +kernel
theorem dX8_layTie_68 : decode cX8_layTie 68 = .ok (.bipush 7, 2) := by decide +kernel
theorem dX8_layTie_70 : decode cX8_layTie 70 = .ok (.iload_n 1, 1) := by decide +kernel
theorem dX8_layTie_71 : decode cX8_layTie 71 = .ok (.imul, 1) := by decide +kernel
theorem dX8_layTie_72 : decode cX8_layTie 72 = .ok (.iaload, 1) := by decide +kernel
theorem dX8_layTie_73 : decode cX8_layTie 73 = .ok (.tableswitch 177 0 2 #[27, 53, 152], 27) := by decide +kernel
theorem dX8_layTie_100 : decode cX8_layTie 100 = .ok (.aload_n 0, 1) := by decide +kernel
theorem dX8_layTie_101 : decode cX8_layTie 101 = .ok (.iload 5, 2) := by decide +kernel
theorem dX8_layTie_103 : decode cX8_layTie 103 = .ok (.iload_n 3, 1) := by decide +kernel
theorem dX8_layTie_104 : decode cX8_layTie 104 = .ok (.iload 6, 2) := by decide +kernel
theorem dX8_layTie_106 : decode cX8_layTie 106 = .ok (.iload 4, 2) := by decide +kernel
theorem dX8_layTie_108 : decode cX8_layTie 108 = .ok (.isub, 1) := by decide +kernel
theorem dX8_layTie_109 : decode cX8_layTie 109 = .ok (.iload 7, 2) := by decide +kernel
theorem dX8_layTie_111 : decode cX8_layTie 111 = .ok (.isub, 1) := by decide +kernel
theorem dX8_layTie_112 : decode cX8_layTie 112 = .ok (.iload 6, 2) := by decide +kernel
theorem dX8_layTie_114 : decode cX8_layTie 114 = .ok (.iload 4, 2) := by decide +kernel
theorem dX8_layTie_116 : decode cX8_layTie 116 = .ok (.isub, 1) := by decide +kernel
theorem dX8_layTie_117 : decode cX8_layTie 117 = .ok (.iload 7, 2) := by decide +kernel
theorem dX8_layTie_119 : decode cX8_layTie 119 = .ok (.iadd, 1) := by decide +kernel
theorem dX8_layTie_120 : decode cX8_layTie 120 = .ok (.invokevirtual 193, 3) := by decide +kernel
theorem dX8_layTie_123 : decode cX8_layTie 123 = .ok (.goto 141, 3) := by decide +kernel
theorem dX8_layTie_126 : decode cX8_layTie 126 = .ok (.iconst 0, 1) := by decide +kernel
theorem dX8_layTie_127 : decode cX8_layTie 127 = .ok (.istore 8, 2) := by decide +kernel
theorem dX8_layTie_129 : decode cX8_layTie 129 = .ok (.iconst 0, 1) := by decide +kernel
theorem dX8_layTie_130 : decode cX8_layTie 130 = .ok (.istore 9, 2) := by decide +kernel
theorem dX8_layTie_132 : decode cX8_layTie 132 = .ok (.iload 9, 2) := by decide +kernel
theorem dX8_layTie_134 : decode cX8_layTie 134 = .ok (.iload_n 1, 1) := by decide +kernel
theorem dX8_layTie_135 : decode cX8_layTie 135 = .ok (.if_icmp .ge 33, 3) := by decide +kernel
theorem dX8_layTie_138 : decode cX8_layTie 138 = .ok (.iload 8, 2) := by decide +kernel
theorem dX8_layTie_140 : decode cX8_layTie 140 = .ok (.aload_n 0, 1) := by decide +kernel
theorem dX8_layTie_141 : decode cX8_layTie 141 = .ok (.getfield 31, 3) := by decide +kernel
theorem dX8_layTie_144 : decode cX8_layTie 144 = .ok (.bipush 7, 2) := by decide +kernel
theorem dX8_layTie_146 : decode cX8_layTie 146 = .ok (.iload 9, 2) := by decide +kernel
theorem dX8_layTie_148 : decode cX8_layTie 148 = .ok (.imul, 1) := by decide +kernel
theorem dX8_layTie_149 : decode cX8_layTie 149 = .ok (.iaload, 1) := by decide +kernel
theorem dX8_layTie_150 : decode cX8_layTie 150 = .ok (.iconst 1, 1) := by decide +kernel
theorem dX8_layTie_151 : decode cX8_layTie 151 = .ok (.if_icmp .ne 7, 3) := by decide +kernel
theorem dX8_layTie_154 : decode cX8_layTie 154 = .ok (.iconst 1, 1) := by decide +kernel
theorem dX8_layTie_155 : decode cX8_layTie 155 = .ok (.goto 4, 3) := by decide +kernel
theorem dX8_layTie_158 : decode cX8_layTie 158 = .ok (.iconst 0, 1) := by decide +kernel
theorem dX8_layTie_159 : decode cX8_layTie 159 = .ok (.iadd, 1) := by decide +kernel
theorem dX8_layTie_160 : decode cX8_layTie 160 = .ok (.istore 8, 2) := by decide +kernel
theorem dX8_layTie_162 : decode cX8_layTie 162 = .ok (.iinc 9 1, 3) := by decide +kernel
theorem dX8_layTie_165 : decode cX8_layTie 165 = .ok (.goto (-33), 3) := by decide +kernel
theorem dX8_layTie_168 : decode cX8_layTie 168 = .ok (.iload 8, 2) := by decide +kernel
theorem dX8_layTie_170 : decode cX8_layTie 170 = .ok (.ifCond .ne 12, 3) := by decide +kernel
theorem dX8_layTie_173 : decode cX8_layTie 173 = .ok (.iload_n 2, 1) := by decide +kernel
theorem dX8_layTie_174 : decode cX8_layTie 174 = .ok (.bipush 8, 2) := by decide +kernel
theorem dX8_layTie_176 : decode cX8_layTie 176 = .ok (.idiv, 1) := by decide +kernel
theorem dX8_layTie_177 : decode cX8_layTie 177 = .ok (.iconst 3, 1) := by decide +kernel
theorem dX8_layTie_178 : decode cX8_layTie 178 = .ok (.irem, 1) := by decide +kernel
theorem dX8_layTie_179 : decode cX8_layTie 179 = .ok (.goto 7, 3) := by decide +kernel
theorem dX8_layTie_182 : decode cX8_layTie 182 = .ok (.iload_n 2, 1) := by decide +kernel
theorem dX8_layTie_183 : decode cX8_layTie 183 = .ok (.bipush 24, 2) := by decide +kernel
theorem dX8_layTie_185 : decode cX8_layTie 185 = .ok (.idiv, 1) := by decide +kernel
theorem dX8_layTie_186 : decode cX8_layTie 186 = .ok (.istore 9, 2) := by decide +kernel
theorem dX8_layTie_188 : decode cX8_layTie 188 = .ok (.aload_n 0, 1) := by decide +kernel
theorem dX8_layTie_189 : decode cX8_layTie 189 = .ok (.getfield 34, 3) := by decide +kernel
theorem dX8_layTie_192 : decode cX8_layTie 192 = .ok (.iconst 3, 1) := by decide +kernel
theorem dX8_layTie_193 : decode cX8_layTie 193 = .ok (.iload_n 1, 1) := by decide +kernel
theorem dX8_layTie_194 : decode cX8_layTie 194 = .ok (.imul, 1) := by decide +kernel
theorem dX8_layTie_195 : decode cX8_layTie 195 = .ok (.iload 9, 2) := by decide +kernel
theorem dX8_layTie_197 : decode cX8_layTie 197 = .ok (.iadd, 1) := by decide +kernel
theorem dX8_layTie_198 : decode cX8_layTie 198 = .ok (.iaload, 1) := by decide +kernel
theorem dX8_layTie_199 : decode cX8_layTie 199 = .ok (.istore 10, 2) := by decide +kernel
theorem dX8_layTie_201 : decode cX8_layTie 201 = .ok (.aload_n 0, 1) := by decide +kernel
theorem dX8_layTie_202 : decode cX8_layTie 202 = .ok (.bipush 10, 2) := by decide +kernel
theorem dX8_layTie_204 : decode cX8_layTie 204 = .ok (.iload_n 3, 1) := by decide +kernel
theorem dX8_layTie_205 : decode cX8_layTie 205 = .ok (.iload 10, 2) := by decide +kernel
theorem dX8_layTie_207 : decode cX8_layTie 207 = .ok (.iload 4, 2) := by decide +kernel
theorem dX8_layTie_209 : decode cX8_layTie 209 = .ok (.isub, 1) := by decide +kernel
theorem dX8_layTie_210 : decode cX8_layTie 210 = .ok (.iconst 1, 1) := by decide +kernel
theorem dX8_layTie_211 : decode cX8_layTie 211 = .ok (.iadd, 1) := by decide +kernel
theorem dX8_layTie_212 : decode cX8_layTie 212 = .ok (.iload 10, 2) := by decide +kernel
theorem dX8_layTie_214 : decode cX8_layTie 214 = .ok (.iload 4, 2) := by decide +kernel
theorem dX8_layTie_216 : decode cX8_layTie 216 = .ok (.isub, 1) := by decide +kernel
theorem dX8_layTie_217 : decode cX8_layTie 217 = .ok (.iconst 1, 1) := by decide +kernel
theorem dX8_layTie_218 : decode cX8_layTie 218 = .ok (.iadd, 1) := by decide +kernel
theorem dX8_layTie_219 : decode cX8_layTie 219 = .ok (.invokevirtual 193, 3) := by decide +kernel
theorem dX8_layTie_222 : decode cX8_layTie 222 = .ok (.goto 42, 3) := by decide +kernel
theorem dX8_layTie_225 : decode cX8_layTie 225 = .ok (.aload_n 0, 1) := by decide +kernel
theorem dX8_layTie_226 : decode cX8_layTie 226 = .ok (.bipush 10, 2) := by decide +kernel
theorem dX8_layTie_228 : decode cX8_layTie 228 = .ok (.iload_n 3, 1) := by decide +kernel
theorem dX8_layTie_229 : decode cX8_layTie 229 = .ok (.aload_n 0, 1) := by decide +kernel
theorem dX8_layTie_230 : decode cX8_layTie 230 = .ok (.getfield 34, 3) := by decide +kernel
theorem dX8_layTie_233 : decode cX8_layTie 233 = .ok (.iconst 3, 1) := by decide +kernel
theorem dX8_layTie_234 : decode cX8_layTie 234 = .ok (.iload_n 1, 1) := by decide +kernel
theorem dX8_layTie_235 : decode cX8_layTie 235 = .ok (.imul, 1) := by decide +kernel
theorem dX8_layTie_236 : decode cX8_layTie 236 = .ok (.iaload, 1) := by decide +kernel
theorem dX8_layTie_237 : decode cX8_layTie 237 = .ok (.iload 4, 2) := by decide +kernel
theorem dX8_layTie_239 : decode cX8_layTie 239 = .ok (.isub, 1) := by decide +kernel
theorem dX8_layTie_240 : decode cX8_layTie 240 = .ok (.iconst 1, 1) := by decide +kernel
theorem dX8_layTie_241 : decode cX8_layTie 241 = .ok (.iadd, 1) := by decide +kernel
theorem dX8_layTie_242 : decode cX8_layTie 242 = .ok (.ldc 192, 2) := by decide +kernel
theorem dX8_layTie_244 : decode cX8_layTie 244 = .ok (.invokevirtual 193, 3) := by decide +kernel
theorem dX8_layTie_247 : decode cX8_layTie 247 = .ok (.goto 17, 3) := by decide +kernel
theorem dX8_layTie_250 : decode cX8_layTie 250 = .ok (.aload_n 0, 1) := by decide +kernel
theorem dX8_layTie_251 : decode cX8_layTie 251 = .ok (.iload 5, 2) := by decide +kernel
theorem dX8_layTie_253 : decode cX8_layTie 253 = .ok (.iload_n 3, 1) := by decide +kernel
theorem dX8_layTie_254 : decode cX8_layTie 254 = .ok (.ldc 200, 2) := by decide +kernel
theorem dX8_layTie_256 : decode cX8_layTie 256 = .ok (.iload 6, 2) := by decide +kernel
theorem dX8_layTie_258 : decode cX8_layTie 258 = .ok (.iload 4, 2) := by decide +kernel
theorem dX8_layTie_260 : decode cX8_layTie 260 = .ok (.isub, 1) := by decide +kernel
theorem dX8_layTie_261 : decode cX8_layTie 261 = .ok (.invokevirtual 193, 3) := by decide +kernel
theorem dX8_layTie_264 : decode cX8_layTie 264 = .ok (.return_, 1) := by decide +kernel
theorem dX8_leastOf_0 : decode cX8_leastOf 0 = .ok (.aload_n 0, 1) := by decide +kernel
theorem dX8_leastOf_1 : decode cX8_leastOf 1 = .ok (.getfield 16, 3) := by decide +kernel
theorem dX8_leastOf_4 : decode cX8_leastOf 4 = .ok (.iload_n 1, 1) := by decide +kernel
theorem dX8_leastOf_5 : decode cX8_leastOf 5 = .ok (.iaload, 1) := by decide +kernel
theorem dX8_leastOf_6 : decode cX8_leastOf 6 = .ok (.iload_n 2, 1) := by decide +kernel
theorem dX8_leastOf_7 : decode cX8_leastOf 7 = .ok (.isub, 1) := by decide +kernel
theorem dX8_leastOf_8 : decode cX8_leastOf 8 = .ok (.istore_n 3, 1) := by decide +kernel
theorem dX8_leastOf_9 : decode cX8_leastOf 9 = .ok (.aload_n 0, 1) := by decide +kernel
theorem dX8_leastOf_10 : decode cX8_leastOf 10 = .ok (.iload_n 1, 1) := by decide +kernel
theorem dX8_leastOf_11 : decode cX8_leastOf 11 = .ok (.iload_n 2, 1) := by decide +kernel
theorem dX8_leastOf_12 : decode cX8_leastOf 12 = .ok (.invokevirtual 110, 3) := by decide +kernel
theorem dX8_leastOf_15 : decode cX8_leastOf 15 = .ok (.istore 4, 2) := by decide +kernel
theorem dX8_leastOf_17 : decode cX8_leastOf 17 = .ok (.aload_n 0, 1) := by decide +kernel
theorem dX8_leastOf_18 : decode cX8_leastOf 18 = .ok (.getfield 13, 3) := by decide +kernel
theorem dX8_leastOf_21 : decode cX8_leastOf 21 = .ok (.iload_n 1, 1) := by decide +kernel
theorem dX8_leastOf_22 : decode cX8_leastOf 22 = .ok (.iaload, 1) := by decide +kernel
theorem dX8_leastOf_23 : decode cX8_leastOf 23 = .ok (.iconst 2, 1) := by decide +kernel
theorem dX8_leastOf_24 : decode cX8_leastOf 24 = .ok (.if_icmp .ne 7, 3) := by decide +kernel
theorem dX8_leastOf_27 : decode cX8_leastOf 27 = .ok (.iconst 0, 1) := by decide +kernel
theorem dX8_leastOf_28 : decode cX8_leastOf 28 = .ok (.goto 41, 3) := by decide +kernel
theorem dX8_leastOf_31 : decode cX8_leastOf 31 = .ok (.aload_n 0, 1) := by decide +kernel
theorem dX8_leastOf_32 : decode cX8_leastOf 32 = .ok (.getfield 13, 3) := by decide +kernel
theorem dX8_leastOf_35 : decode cX8_leastOf 35 = .ok (.iload_n 1, 1) := by decide +kernel
theorem dX8_leastOf_36 : decode cX8_leastOf 36 = .ok (.iaload, 1) := by decide +kernel
theorem dX8_leastOf_37 : decode cX8_leastOf 37 = .ok (.iconst 5, 1) := by decide +kernel
theorem dX8_leastOf_38 : decode cX8_leastOf 38 = .ok (.if_icmp .ne 7, 3) := by decide +kernel
theorem dX8_leastOf_41 : decode cX8_leastOf 41 = .ok (.iconst 1, 1) := by decide +kernel
theorem dX8_leastOf_42 : decode cX8_leastOf 42 = .ok (.goto 27, 3) := by decide +kernel
theorem dX8_leastOf_45 : decode cX8_leastOf 45 = .ok (.aload_n 0, 1) := by decide +kernel
theorem dX8_leastOf_46 : decode cX8_leastOf 46 = .ok (.getfield 13, 3) := by decide +kernel
theorem dX8_leastOf_49 : decode cX8_leastOf 49 = .ok (.iload_n 1, 1) := by decide +kernel
theorem dX8_leastOf_50 : decode cX8_leastOf 50 = .ok (.iaload, 1) := by decide +kernel
theorem dX8_leastOf_51 : decode cX8_leastOf 51 = .ok (.invokestatic 100, 3) := by decide +kernel
theorem dX8_leastOf_54 : decode cX8_leastOf 54 = .ok (.ifCond .eq 14, 3) := by decide +kernel
theorem dX8_leastOf_57 : decode cX8_leastOf 57 = .ok (.iload 4, 2) := by decide +kernel
theorem dX8_leastOf_59 : decode cX8_leastOf 59 = .ok (.iload_n 3, 1) := by decide +kernel
theorem dX8_leastOf_60 : decode cX8_leastOf 60 = .ok (.if_icmp .ge 8, 3) := by decide +kernel
theorem dX8_leastOf_63 : decode cX8_leastOf 63 = .ok (.iload 4, 2) := by decide +kernel
theorem dX8_leastOf_65 : decode cX8_leastOf 65 = .ok (.goto 4, 3) := by decide +kernel
theorem dX8_leastOf_68 : decode cX8_leastOf 68 = .ok (.iload_n 3, 1) := by decide +kernel
theorem dX8_leastOf_69 : decode cX8_leastOf 69 = .ok (.ireturn, 1) := by decide +kernel
theorem dX8_lengthsOf_0 : decode cX8_lengthsOf 0 = .ok (.aload_n 0, 1) := by decide +kernel
theorem dX8_lengthsOf_1 : decode cX8_lengthsOf 1 = .ok (.iload_n 1, 1) := by decide +kernel
theorem dX8_lengthsOf_2 : decode cX8_lengthsOf 2 = .ok (.iload_n 2, 1) := by decide +kernel
theorem dX8_lengthsOf_3 : decode cX8_lengthsOf 3 = .ok (.invokevirtual 113, 3) := by decide +kernel
theorem dX8_lengthsOf_6 : decode cX8_lengthsOf 6 = .ok (.aload_n 0, 1) := by decide +kernel
theorem dX8_lengthsOf_7 : decode cX8_lengthsOf 7 = .ok (.iload_n 1, 1) := by decide +kernel
theorem dX8_lengthsOf_8 : decode cX8_lengthsOf 8 = .ok (.iload_n 2, 1) := by decide +kernel
theorem dX8_lengthsOf_9 : decode cX8_lengthsOf 9 = .ok (.invokevirtual 116, 3) := by decide +kernel
theorem dX8_lengthsOf_12 : decode cX8_lengthsOf 12 = .ok (.isub, 1) := by decide +kernel
theorem dX8_lengthsOf_13 : decode cX8_lengthsOf 13 = .ok (.istore_n 3, 1) := by decide +kernel
theorem dX8_lengthsOf_14 : decode cX8_lengthsOf 14 = .ok (.aload_n 0, 1) := by decide +kernel
theorem dX8_lengthsOf_15 : decode cX8_lengthsOf 15 = .ok (.getfield 13, 3) := by decide +kernel
theorem dX8_lengthsOf_18 : decode cX8_lengthsOf 18 = .ok (.iload_n 1, 1) := by decide +kernel
theorem dX8_lengthsOf_19 : decode cX8_lengthsOf 19 = .ok (.iaload, 1) := by decide +kernel
theorem dX8_lengthsOf_20 : decode cX8_lengthsOf 20 = .ok (.invokestatic 100, 3) := by decide +kernel
theorem dX8_lengthsOf_23 : decode cX8_lengthsOf 23 = .ok (.ifCond .eq 15, 3) := by decide +kernel
theorem dX8_lengthsOf_26 : decode cX8_lengthsOf 26 = .ok (.iload_n 3, 1) := by decide +kernel
theorem dX8_lengthsOf_27 : decode cX8_lengthsOf 27 = .ok (.ifCond .le 7, 3) := by decide +kernel
theorem dX8_lengthsOf_30 : decode cX8_lengthsOf 30 = .ok (.iconst 2, 1) := by decide +kernel
theorem dX8_lengthsOf_31 : decode cX8_lengthsOf 31 = .ok (.goto 10, 3) := by decide +kernel
theorem dX8_lengthsOf_34 : decode cX8_lengthsOf 34 = .ok (.iconst 1, 1) := by decide +kernel
theorem dX8_lengthsOf_35 : decode cX8_lengthsOf 35 = .ok (.goto 6, 3) := by decide +kernel
theorem dX8_lengthsOf_38 : decode cX8_lengthsOf 38 = .ok (.iload_n 3, 1) := by decide +kernel
theorem dX8_lengthsOf_39 : decode cX8_lengthsOf 39 = .ok (.iconst 1, 1) := by decide +kernel
theorem dX8_lengthsOf_40 : decode cX8_lengthsOf 40 = .ok (.iadd, 1) := by decide +kernel
theorem dX8_lengthsOf_41 : decode cX8_lengthsOf 41 = .ok (.ireturn, 1) := by decide +kernel
theorem dX8_letter_0 : decode cX8_letter 0 = .ok (.aload_n 0, 1) := by decide +kernel
theorem dX8_letter_1 : decode cX8_letter 1 = .ok (.iload_n 1, 1) := by decide +kernel
theorem dX8_letter_2 : decode cX8_letter 2 = .ok (.invokevirtual 103, 3) := by decide +kernel
theorem dX8_letter_5 : decode cX8_letter 5 = .ok (.ifCond .eq 16, 3) := by decide +kernel
theorem dX8_letter_8 : decode cX8_letter 8 = .ok (.aload_n 0, 1) := by decide +kernel
theorem dX8_letter_9 : decode cX8_letter 9 = .ok (.iload_n 3, 1) := by decide +kernel
theorem dX8_letter_10 : decode cX8_letter 10 = .ok (.invokevirtual 103, 3) := by decide +kernel
theorem dX8_letter_13 : decode cX8_letter 13 = .ok (.ifCond .eq 8, 3) := by decide +kernel
theorem dX8_letter_16 : decode cX8_letter 16 = .ok (.iload_n 1, 1) := by decide +kernel
theorem dX8_letter_17 : decode cX8_letter 17 = .ok (.iload_n 3, 1) := by decide +kernel
theorem dX8_letter_18 : decode cX8_letter 18 = .ok (.if_icmp .ne 6, 3) := by decide +kernel
theorem dX8_letter_21 : decode cX8_letter 21 = .ok (.bipush (-101), 2) := by decide +kernel
theorem dX8_letter_23 : decode cX8_letter 23 = .ok (.ireturn, 1) := by decide +kernel
theorem dX8_letter_24 : decode cX8_letter 24 = .ok (.iload_n 2, 1) := by decide +kernel
theorem dX8_letter_25 : decode cX8_letter 25 = .ok (.invokestatic 125, 3) := by decide +kernel
theorem dX8_letter_28 : decode cX8_letter 28 = .ok (.ifCond .eq 35, 3) := by decide +kernel
theorem dX8_letter_31 : decode cX8_letter 31 = .ok (.iload 4, 2) := by decide +kernel
theorem dX8_letter_33 : decode cX8_letter 33 = .ok (.invokestatic 125, 3) := by decide +kernel
theorem dX8_letter_36 : decode cX8_letter 36 = .ok (.ifCond .eq 27, 3) := by decide +kernel
theorem dX8_letter_39 : decode cX8_letter 39 = .ok (.iload 5, 2) := by decide +kernel
theorem dX8_letter_41 : decode cX8_letter 41 = .ok (.invokestatic 92, 3) := by decide +kernel
theorem dX8_letter_44 : decode cX8_letter 44 = .ok (.ifCond .eq 19, 3) := by decide +kernel
theorem dX8_letter_47 : decode cX8_letter 47 = .ok (.aload_n 0, 1) := by decide +kernel
theorem dX8_letter_48 : decode cX8_letter 48 = .ok (.iconst 3, 1) := by decide +kernel
theorem dX8_letter_49 : decode cX8_letter 49 = .ok (.iload_n 1, 1) := by decide +kernel
theorem dX8_letter_50 : decode cX8_letter 50 = .ok (.iload_n 2, 1) := by decide +kernel
theorem dX8_letter_51 : decode cX8_letter 51 = .ok (.iload_n 3, 1) := by decide +kernel
theorem dX8_letter_52 : decode cX8_letter 52 = .ok (.iload 4, 2) := by decide +kernel
theorem dX8_letter_54 : decode cX8_letter 54 = .ok (.iconst (-1), 1) := by decide +kernel
theorem dX8_letter_55 : decode cX8_letter 55 = .ok (.iload 5, 2) := by decide +kernel
theorem dX8_letter_57 : decode cX8_letter 57 = .ok (.invokevirtual 128, 3) := by decide +kernel
theorem dX8_letter_60 : decode cX8_letter 60 = .ok (.goto 5, 3) := by decide +kernel
theorem dX8_letter_63 : decode cX8_letter 63 = .ok (.bipush (-102), 2) := by decide +kernel
theorem dX8_letter_65 : decode cX8_letter 65 = .ok (.ireturn, 1) := by decide +kernel
theorem dX8_letters_0 : decode cX8_letters 0 = .ok (.iconst 0, 1) := by decide +kernel
theorem dX8_letters_1 : decode cX8_letters 1 = .ok (.istore_n 3, 1) := by decide +kernel
theorem dX8_letters_2 : decode cX8_letters 2 = .ok (.iconst 0, 1) := by decide +kernel
theorem dX8_letters_3 : decode cX8_letters 3 = .ok (.istore 4, 2) := by decide +kernel
theorem dX8_letters_5 : decode cX8_letters 5 = .ok (.iconst 0, 1) := by decide +kernel
theorem dX8_letters_6 : decode cX8_letters 6 = .ok (.istore 5, 2) := by decide +kernel
theorem dX8_letters_8 : decode cX8_letters 8 = .ok (.iload 5, 2) := by decide +kernel
theorem dX8_letters_10 : decode cX8_letters 10 = .ok (.bipush 8, 2) := by decide +kernel
theorem dX8_letters_12 : decode cX8_letters 12 = .ok (.if_icmp .ge 73, 3) := by decide +kernel
theorem dX8_letters_15 : decode cX8_letters 15 = .ok (.lload_n 1, 1) := by decide +kernel
theorem dX8_letters_16 : decode cX8_letters 16 = .ok (.bipush 8, 2) := by decide +kernel
theorem dX8_letters_18 : decode cX8_letters 18 = .ok (.iload 5, 2) := by decide +kernel
theorem dX8_letters_20 : decode cX8_letters 20 = .ok (.imul, 1) := by decide +kernel
theorem dX8_letters_21 : decode cX8_letters 21 = .ok (.lshr, 1) := by decide +kernel
theorem dX8_letters_22 : decode cX8_letters 22 = .ok (.ldc2_w 138, 3) := by decide +kernel
theorem dX8_letters_25 : decode cX8_letters 25 = .ok (.land, 1) := by decide +kernel
theorem dX8_letters_26 : decode cX8_letters 26 = .ok (.l2i, 1) := by decide +kernel
theorem dX8_letters_27 : decode cX8_letters 27 = .ok (.istore 6, 2) := by decide +kernel
theorem dX8_letters_29 : decode cX8_letters 29 = .ok (.iload 6, 2) := by decide +kernel
theorem dX8_letters_31 : decode cX8_letters 31 = .ok (.bipush 126, 2) := by decide +kernel
theorem dX8_letters_33 : decode cX8_letters 33 = .ok (.if_icmp .gt 13, 3) := by decide +kernel
theorem dX8_letters_36 : decode cX8_letters 36 = .ok (.iload 4, 2) := by decide +kernel
theorem dX8_letters_38 : decode cX8_letters 38 = .ok (.ifCond .eq 11, 3) := by decide +kernel
theorem dX8_letters_41 : decode cX8_letters 41 = .ok (.iload 6, 2) := by decide +kernel
theorem dX8_letters_43 : decode cX8_letters 43 = .ok (.ifCond .eq 6, 3) := by decide +kernel
theorem dX8_letters_46 : decode cX8_letters 46 = .ok (.bipush (-102), 2) := by decide +kernel
theorem dX8_letters_48 : decode cX8_letters 48 = .ok (.ireturn, 1) := by decide +kernel
theorem dX8_letters_49 : decode cX8_letters 49 = .ok (.iload 4, 2) := by decide +kernel
theorem dX8_letters_51 : decode cX8_letters 51 = .ok (.ifCond .ne 8, 3) := by decide +kernel
theorem dX8_letters_54 : decode cX8_letters 54 = .ok (.iload 6, 2) := by decide +kernel
theorem dX8_letters_56 : decode cX8_letters 56 = .ok (.ifCond .ne 7, 3) := by decide +kernel
theorem dX8_letters_59 : decode cX8_letters 59 = .ok (.iconst 1, 1) := by decide +kernel
theorem dX8_letters_60 : decode cX8_letters 60 = .ok (.goto 4, 3) := by decide +kernel
theorem dX8_letters_63 : decode cX8_letters 63 = .ok (.iconst 0, 1) := by decide +kernel
theorem dX8_letters_64 : decode cX8_letters 64 = .ok (.istore 4, 2) := by decide +kernel
theorem dX8_letters_66 : decode cX8_letters 66 = .ok (.iload_n 3, 1) := by decide +kernel
theorem dX8_letters_67 : decode cX8_letters 67 = .ok (.iload 6, 2) := by decide +kernel
theorem dX8_letters_69 : decode cX8_letters 69 = .ok (.ifCond .ne 7, 3) := by decide +kernel
theorem dX8_letters_72 : decode cX8_letters 72 = .ok (.iconst 0, 1) := by decide +kernel
theorem dX8_letters_73 : decode cX8_letters 73 = .ok (.goto 4, 3) := by decide +kernel
theorem dX8_letters_76 : decode cX8_letters 76 = .ok (.iconst 1, 1) := by decide +kernel
theorem dX8_letters_77 : decode cX8_letters 77 = .ok (.iadd, 1) := by decide +kernel
theorem dX8_letters_78 : decode cX8_letters 78 = .ok (.istore_n 3, 1) := by decide +kernel
theorem dX8_letters_79 : decode cX8_letters 79 = .ok (.iinc 5 1, 3) := by decide +kernel
theorem dX8_letters_82 : decode cX8_letters 82 = .ok (.goto (-74), 3) := by decide +kernel
theorem dX8_letters_85 : decode cX8_letters 85 = .ok (.aload_n 0, 1) := by decide +kernel
theorem dX8_letters_86 : decode cX8_letters 86 = .ok (.getfield 140, 3) := by decide +kernel
theorem dX8_letters_89 : decode cX8_letters 89 = .ok (.iload_n 3, 1) := by decide +kernel
theorem dX8_letters_90 : decode cX8_letters 90 = .ok (.iadd, 1) := by decide +kernel
theorem dX8_letters_91 : decode cX8_letters 91 = .ok (.bipush 60, 2) := by decide +kernel
theorem dX8_letters_93 : decode cX8_letters 93 = .ok (.if_icmp .le 6, 3) := by decide +kernel
theorem dX8_letters_96 : decode cX8_letters 96 = .ok (.bipush (-104), 2) := by decide +kernel
theorem dX8_letters_98 : decode cX8_letters 98 = .ok (.ireturn, 1) := by decide +kernel
theorem dX8_letters_99 : decode cX8_letters 99 = .ok (.iconst 0, 1) := by decide +kernel
theorem dX8_letters_100 : decode cX8_letters 100 = .ok (.istore 5, 2) := by decide +kernel
theorem dX8_letters_102 : decode cX8_letters 102 = .ok (.iload 5, 2) := by decide +kernel
theorem dX8_letters_104 : decode cX8_letters 104 = .ok (.iload_n 3, 1) := by decide +kernel
theorem dX8_letters_105 : decode cX8_letters 105 = .ok (.if_icmp .ge 30, 3) := by decide +kernel
theorem dX8_letters_108 : decode cX8_letters 108 = .ok (.aload_n 0, 1) := by decide +kernel
theorem dX8_letters_109 : decode cX8_letters 109 = .ok (.getfield 37, 3) := by decide +kernel
theorem dX8_letters_112 : decode cX8_letters 112 = .ok (.aload_n 0, 1) := by decide +kernel
theorem dX8_letters_113 : decode cX8_letters 113 = .ok (.getfield 140, 3) := by decide +kernel
theorem dX8_letters_116 : decode cX8_letters 116 = .ok (.iload 5, 2) := by decide +kernel
theorem dX8_letters_118 : decode cX8_letters 118 = .ok (.iadd, 1) := by decide +kernel
theorem dX8_letters_119 : decode cX8_letters 119 = .ok (.lload_n 1, 1) := by decide +kernel
theorem dX8_letters_120 : decode cX8_letters 120 = .ok (.bipush 8, 2) := by decide +kernel
theorem dX8_letters_122 : decode cX8_letters 122 = .ok (.iload 5, 2) := by decide +kernel
theorem dX8_letters_124 : decode cX8_letters 124 = .ok (.imul, 1) := by decide +kernel
theorem dX8_letters_125 : decode cX8_letters 125 = .ok (.lshr, 1) := by decide +kernel
theorem dX8_letters_126 : decode cX8_letters 126 = .ok (.l2i, 1) := by decide +kernel
theorem dX8_letters_127 : decode cX8_letters 127 = .ok (.i2b, 1) := by decide +kernel
theorem dX8_letters_128 : decode cX8_letters 128 = .ok (.bastore, 1) := by decide +kernel
theorem dX8_letters_129 : decode cX8_letters 129 = .ok (.iinc 5 1, 3) := by decide +kernel
theorem dX8_letters_132 : decode cX8_letters 132 = .ok (.goto (-30), 3) := by decide +kernel
theorem dX8_letters_135 : decode cX8_letters 135 = .ok (.aload_n 0, 1) := by decide +kernel
theorem dX8_letters_136 : decode cX8_letters 136 = .ok (.dup, 1) := by decide +kernel
theorem dX8_letters_137 : decode cX8_letters 137 = .ok (.getfield 140, 3) := by decide +kernel
theorem dX8_letters_140 : decode cX8_letters 140 = .ok (.iload_n 3, 1) := by decide +kernel
theorem dX8_letters_141 : decode cX8_letters 141 = .ok (.iadd, 1) := by decide +kernel
theorem dX8_letters_142 : decode cX8_letters 142 = .ok (.putfield 140, 3) := by decide +kernel
theorem dX8_letters_145 : decode cX8_letters 145 = .ok (.aload_n 0, 1) := by decide +kernel
theorem dX8_letters_146 : decode cX8_letters 146 = .ok (.getfield 140, 3) := by decide +kernel
theorem dX8_letters_149 : decode cX8_letters 149 = .ok (.ireturn, 1) := by decide +kernel
theorem dX8_lies_0 : decode cX8_lies 0 = .ok (.iload_n 0, 1) := by decide +kernel
theorem dX8_lies_1 : decode cX8_lies 1 = .ok (.iload_n 1, 1) := by decide +kernel
theorem dX8_lies_2 : decode cX8_lies 2 = .ok (.if_icmp .lt 12, 3) := by decide +kernel
theorem dX8_lies_5 : decode cX8_lies 5 = .ok (.iload_n 0, 1) := by decide +kernel
theorem dX8_lies_6 : decode cX8_lies 6 = .ok (.iload_n 2, 1) := by decide +kernel
theorem dX8_lies_7 : decode cX8_lies 7 = .ok (.if_icmp .gt 7, 3) := by decide +kernel
theorem dX8_lies_10 : decode cX8_lies 10 = .ok (.iconst 1, 1) := by decide +kernel
theorem dX8_lies_11 : decode cX8_lies 11 = .ok (.goto 4, 3) := by decide +kernel
theorem dX8_lies_14 : decode cX8_lies 14 = .ok (.iconst 0, 1) := by decide +kernel
theorem dX8_lies_15 : decode cX8_lies 15 = .ok (.ireturn, 1) := by decide +kernel
theorem dX8_mayLast_0 : decode cX8_mayLast 0 = .ok (.aload_n 0, 1) := by decide +kernel
theorem dX8_mayLast_1 : decode cX8_mayLast 1 = .ok (.getfield 13, 3) := by decide +kernel
theorem dX8_mayLast_4 : decode cX8_mayLast 4 = .ok (.iload_n 1, 1) := by decide +kernel
theorem dX8_mayLast_5 : decode cX8_mayLast 5 = .ok (.iaload, 1) := by decide +kernel
theorem dX8_mayLast_6 : decode cX8_mayLast 6 = .ok (.invokestatic 100, 3) := by decide +kernel
theorem dX8_mayLast_9 : decode cX8_mayLast 9 = .ok (.ifCond .eq 31, 3) := by decide +kernel
theorem dX8_mayLast_12 : decode cX8_mayLast 12 = .ok (.iload_n 3, 1) := by decide +kernel
theorem dX8_mayLast_13 : decode cX8_mayLast 13 = .ok (.aload_n 0, 1) := by decide +kernel
theorem dX8_mayLast_14 : decode cX8_mayLast 14 = .ok (.getfield 16, 3) := by decide +kernel
theorem dX8_mayLast_17 : decode cX8_mayLast 17 = .ok (.iload_n 1, 1) := by decide +kernel
theorem dX8_mayLast_18 : decode cX8_mayLast 18 = .ok (.iaload, 1) := by decide +kernel
theorem dX8_mayLast_19 : decode cX8_mayLast 19 = .ok (.iload_n 2, 1) := by decide +kernel
theorem dX8_mayLast_20 : decode cX8_mayLast 20 = .ok (.isub, 1) := by decide +kernel
theorem dX8_mayLast_21 : decode cX8_mayLast 21 = .ok (.if_icmp .eq 13, 3) := by decide +kernel
theorem dX8_mayLast_24 : decode cX8_mayLast 24 = .ok (.iload_n 3, 1) := by decide +kernel
theorem dX8_mayLast_25 : decode cX8_mayLast 25 = .ok (.aload_n 0, 1) := by decide +kernel
theorem dX8_mayLast_26 : decode cX8_mayLast 26 = .ok (.iload_n 1, 1) := by decide +kernel
theorem dX8_mayLast_27 : decode cX8_mayLast 27 = .ok (.iload_n 2, 1) := by decide +kernel
theorem dX8_mayLast_28 : decode cX8_mayLast 28 = .ok (.invokevirtual 110, 3) := by decide +kernel
theorem dX8_mayLast_31 : decode cX8_mayLast 31 = .ok (.if_icmp .ne 7, 3) := by decide +kernel
theorem dX8_mayLast_34 : decode cX8_mayLast 34 = .ok (.iconst 1, 1) := by decide +kernel
theorem dX8_mayLast_35 : decode cX8_mayLast 35 = .ok (.goto 4, 3) := by decide +kernel
theorem dX8_mayLast_38 : decode cX8_mayLast 38 = .ok (.iconst 0, 1) := by decide +kernel
theorem dX8_mayLast_39 : decode cX8_mayLast 39 = .ok (.ireturn, 1) := by decide +kernel
theorem dX8_mayLast_40 : decode cX8_mayLast 40 = .ok (.iload_n 3, 1) := by decide +kernel
theorem dX8_mayLast_41 : decode cX8_mayLast 41 = .ok (.aload_n 0, 1) := by decide +kernel
theorem dX8_mayLast_42 : decode cX8_mayLast 42 = .ok (.iload_n 1, 1) := by decide +kernel
theorem dX8_mayLast_43 : decode cX8_mayLast 43 = .ok (.iload_n 2, 1) := by decide +kernel
theorem dX8_mayLast_44 : decode cX8_mayLast 44 = .ok (.invokevirtual 116, 3) := by decide +kernel
theorem dX8_mayLast_47 : decode cX8_mayLast 47 = .ok (.aload_n 0, 1) := by decide +kernel
theorem dX8_mayLast_48 : decode cX8_mayLast 48 = .ok (.iload_n 1, 1) := by decide +kernel
theorem dX8_mayLast_49 : decode cX8_mayLast 49 = .ok (.iload_n 2, 1) := by decide +kernel
theorem dX8_mayLast_50 : decode cX8_mayLast 50 = .ok (.invokevirtual 113, 3) := by decide +kernel
theorem dX8_mayLast_53 : decode cX8_mayLast 53 = .ok (.invokestatic 88, 3) := by decide +kernel
theorem dX8_mayLast_56 : decode cX8_mayLast 56 = .ok (.ireturn, 1) := by decide +kernel
theorem dX8_misreadAhead_0 : decode cX8_misreadAhead 0 = .ok (.iconst 0, 1) := by decide +kernel
theorem dX8_misreadAhead_1 : decode cX8_misreadAhead 1 = .ok (.istore_n 2, 1) := by decide +kernel
theorem dX8_misreadAhead_2 : decode cX8_misreadAhead 2 = .ok (.iconst 0, 1) := by decide +kernel
theorem dX8_misreadAhead_3 : decode cX8_misreadAhead 3 = .ok (.istore_n 3, 1) := by decide +kernel
theorem dX8_misreadAhead_4 : decode cX8_misreadAhead 4 = .ok (.iload_n 3, 1) := by decide +kernel
theorem dX8_misreadAhead_5 : decode cX8_misreadAhead 5 = .ok (.iload_n 1, 1) := by decide +kernel
theorem dX8_misreadAhead_6 : decode cX8_misreadAhead 6 = .ok (.if_icmp .ge 29, 3) := by decide +kernel
theorem dX8_misreadAhead_9 : decode cX8_misreadAhead 9 = .ok (.iload_n 2, 1) := by decide +kernel
theorem dX8_misreadAhead_10 : decode cX8_misreadAhead 10 = .ok (.aload_n 0, 1) := by decide +kernel
theorem dX8_misreadAhead_11 : decode cX8_misreadAhead 11 = .ok (.getfield 13, 3) := by decide +kernel
theorem dX8_misreadAhead_14 : decode cX8_misreadAhead 14 = .ok (.iload_n 3, 1) := by decide +kernel
theorem dX8_misreadAhead_15 : decode cX8_misreadAhead 15 = .ok (.iaload, 1) := by decide +kernel
theorem dX8_misreadAhead_16 : decode cX8_misreadAhead 16 = .ok (.invokestatic 100, 3) := by decide +kernel
theorem dX8_misreadAhead_19 : decode cX8_misreadAhead 19 = .ok (.ifCond .eq 7, 3) := by decide +kernel
theorem dX8_misreadAhead_22 : decode cX8_misreadAhead 22 = .ok (.iconst 1, 1) := by decide +kernel
theorem dX8_misreadAhead_23 : decode cX8_misreadAhead 23 = .ok (.goto 4, 3) := by decide +kernel
theorem dX8_misreadAhead_26 : decode cX8_misreadAhead 26 = .ok (.iconst 0, 1) := by decide +kernel
theorem dX8_misreadAhead_27 : decode cX8_misreadAhead 27 = .ok (.iadd, 1) := by decide +kernel
theorem dX8_misreadAhead_28 : decode cX8_misreadAhead 28 = .ok (.istore_n 2, 1) := by decide +kernel
theorem dX8_misreadAhead_29 : decode cX8_misreadAhead 29 = .ok (.iinc 3 1, 3) := by decide +kernel
theorem dX8_misreadAhead_32 : decode cX8_misreadAhead 32 = .ok (.goto (-28), 3) := by decide +kernel
theorem dX8_misreadAhead_35 : decode cX8_misreadAhead 35 = .ok (.iload_n 2, 1) := by decide +kernel
theorem dX8_misreadAhead_36 : decode cX8_misreadAhead 36 = .ok (.ireturn, 1) := by decide +kernel
theorem dX8_mix_0 : decode cX8_mix 0 = .ok (.aload_n 0, 1) := by decide +kernel
theorem dX8_mix_1 : decode cX8_mix 1 = .ok (.ldc2_w 252, 3) := by decide +kernel
theorem dX8_mix_4 : decode cX8_mix 4 = .ok (.aload_n 0, 1) := by decide +kernel
theorem dX8_mix_5 : decode cX8_mix 5 = .ok (.getfield 254, 3) := by decide +kernel
theorem dX8_mix_8 : decode cX8_mix 8 = .ok (.lmul, 1) := by decide +kernel
theorem dX8_mix_9 : decode cX8_mix 9 = .ok (.lload_n 1, 1) := by decide +kernel
theorem dX8_mix_10 : decode cX8_mix 10 = .ok (.ladd, 1) := by decide +kernel
theorem dX8_mix_11 : decode cX8_mix 11 = .ok (.putfield 254, 3) := by decide +kernel
theorem dX8_mix_14 : decode cX8_mix 14 = .ok (.return_, 1) := by decide +kernel
theorem dX8_mostOf_0 : decode cX8_mostOf 0 = .ok (.aload_n 0, 1) := by decide +kernel
theorem dX8_mostOf_1 : decode cX8_mostOf 1 = .ok (.getfield 16, 3) := by decide +kernel
theorem dX8_mostOf_4 : decode cX8_mostOf 4 = .ok (.iload_n 1, 1) := by decide +kernel
theorem dX8_mostOf_5 : decode cX8_mostOf 5 = .ok (.iaload, 1) := by decide +kernel
theorem dX8_mostOf_6 : decode cX8_mostOf 6 = .ok (.iload_n 2, 1) := by decide +kernel
theorem dX8_mostOf_7 : decode cX8_mostOf 7 = .ok (.isub, 1) := by decide +kernel
theorem dX8_mostOf_8 : decode cX8_mostOf 8 = .ok (.istore_n 3, 1) := by decide +kernel
theorem dX8_mostOf_9 : decode cX8_mostOf 9 = .ok (.aload_n 0, 1) := by decide +kernel
theorem dX8_mostOf_10 : decode cX8_mostOf 10 = .ok (.iload_n 1, 1) := by decide +kernel
theorem dX8_mostOf_11 : decode cX8_mostOf 11 = .ok (.iload_n 2, 1) := by decide +kernel
theorem dX8_mostOf_12 : decode cX8_mostOf 12 = .ok (.invokevirtual 110, 3) := by decide +kernel
theorem dX8_mostOf_15 : decode cX8_mostOf 15 = .ok (.istore 4, 2) := by decide +kernel
theorem dX8_mostOf_17 : decode cX8_mostOf 17 = .ok (.aload_n 0, 1) := by decide +kernel
theorem dX8_mostOf_18 : decode cX8_mostOf 18 = .ok (.getfield 13, 3) := by decide +kernel
theorem dX8_mostOf_21 : decode cX8_mostOf 21 = .ok (.iload_n 1, 1) := by decide +kernel
theorem dX8_mostOf_22 : decode cX8_mostOf 22 = .ok (.iaload, 1) := by decide +kernel
theorem dX8_mostOf_23 : decode cX8_mostOf 23 = .ok (.iconst 5, 1) := by decide +kernel
theorem dX8_mostOf_24 : decode cX8_mostOf 24 = .ok (.if_icmp .ne 8, 3) := by decide +kernel
theorem dX8_mostOf_27 : decode cX8_mostOf 27 = .ok (.bipush 60, 2) := by decide +kernel
theorem dX8_mostOf_29 : decode cX8_mostOf 29 = .ok (.goto 27, 3) := by decide +kernel
theorem dX8_mostOf_32 : decode cX8_mostOf 32 = .ok (.aload_n 0, 1) := by decide +kernel
theorem dX8_mostOf_33 : decode cX8_mostOf 33 = .ok (.getfield 13, 3) := by decide +kernel
theorem dX8_mostOf_36 : decode cX8_mostOf 36 = .ok (.iload_n 1, 1) := by decide +kernel
theorem dX8_mostOf_37 : decode cX8_mostOf 37 = .ok (.iaload, 1) := by decide +kernel
theorem dX8_mostOf_38 : decode cX8_mostOf 38 = .ok (.invokestatic 100, 3) := by decide +kernel
theorem dX8_mostOf_41 : decode cX8_mostOf 41 = .ok (.ifCond .eq 14, 3) := by decide +kernel
theorem dX8_mostOf_44 : decode cX8_mostOf 44 = .ok (.iload 4, 2) := by decide +kernel
theorem dX8_mostOf_46 : decode cX8_mostOf 46 = .ok (.iload_n 3, 1) := by decide +kernel
theorem dX8_mostOf_47 : decode cX8_mostOf 47 = .ok (.if_icmp .le 8, 3) := by decide +kernel
theorem dX8_mostOf_50 : decode cX8_mostOf 50 = .ok (.iload 4, 2) := by decide +kernel
theorem dX8_mostOf_52 : decode cX8_mostOf 52 = .ok (.goto 4, 3) := by decide +kernel
theorem dX8_mostOf_55 : decode cX8_mostOf 55 = .ok (.iload_n 3, 1) := by decide +kernel
theorem dX8_mostOf_56 : decode cX8_mostOf 56 = .ok (.ireturn, 1) := by decide +kernel
theorem dX8_next_0 : decode cX8_next 0 = .ok (.iload_n 2, 1) := by decide +kernel
theorem dX8_next_1 : decode cX8_next 1 = .ok (.bipush 48, 2) := by decide +kernel
theorem dX8_next_3 : decode cX8_next 3 = .ok (.bipush 57, 2) := by decide +kernel
theorem dX8_next_5 : decode cX8_next 5 = .ok (.invokestatic 88, 3) := by decide +kernel
theorem dX8_next_8 : decode cX8_next 8 = .ok (.istore 4, 2) := by decide +kernel
theorem dX8_next_10 : decode cX8_next 10 = .ok (.iload_n 1, 1) := by decide +kernel
theorem dX8_next_11 : decode cX8_next 11 = .ok (.tableswitch 160 0 6 #[41, 59, 71, 89, 101, 130, 148], 41) := by decide +kernel
theorem dX8_next_52 : decode cX8_next 52 = .ok (.iload_n 2, 1) := by decide +kernel
theorem dX8_next_53 : decode cX8_next 53 = .ok (.bipush 67, 2) := by decide +kernel
theorem dX8_next_55 : decode cX8_next 55 = .ok (.if_icmp .eq 9, 3) := by decide +kernel
theorem dX8_next_58 : decode cX8_next 58 = .ok (.iload_n 2, 1) := by decide +kernel
theorem dX8_next_59 : decode cX8_next 59 = .ok (.bipush 66, 2) := by decide +kernel
theorem dX8_next_61 : decode cX8_next 61 = .ok (.if_icmp .ne 7, 3) := by decide +kernel
theorem dX8_next_64 : decode cX8_next 64 = .ok (.iconst 1, 1) := by decide +kernel
theorem dX8_next_65 : decode cX8_next 65 = .ok (.goto 4, 3) := by decide +kernel
theorem dX8_next_68 : decode cX8_next 68 = .ok (.iconst (-1), 1) := by decide +kernel
theorem dX8_next_69 : decode cX8_next 69 = .ok (.ireturn, 1) := by decide +kernel
theorem dX8_next_70 : decode cX8_next 70 = .ok (.iload_n 2, 1) := by decide +kernel
theorem dX8_next_71 : decode cX8_next 71 = .ok (.bipush 58, 2) := by decide +kernel
theorem dX8_next_73 : decode cX8_next 73 = .ok (.if_icmp .ne 7, 3) := by decide +kernel
theorem dX8_next_76 : decode cX8_next 76 = .ok (.iconst 2, 1) := by decide +kernel
theorem dX8_next_77 : decode cX8_next 77 = .ok (.goto 4, 3) := by decide +kernel
theorem dX8_next_80 : decode cX8_next 80 = .ok (.iconst (-1), 1) := by decide +kernel
theorem dX8_next_81 : decode cX8_next 81 = .ok (.ireturn, 1) := by decide +kernel
theorem dX8_next_82 : decode cX8_next 82 = .ok (.iload_n 2, 1) := by decide +kernel
theorem dX8_next_83 : decode cX8_next 83 = .ok (.bipush 48, 2) := by decide +kernel
theorem dX8_next_85 : decode cX8_next 85 = .ok (.if_icmp .eq 9, 3) := by decide +kernel
theorem dX8_next_88 : decode cX8_next 88 = .ok (.iload_n 2, 1) := by decide +kernel
theorem dX8_next_89 : decode cX8_next 89 = .ok (.bipush 49, 2) := by decide +kernel
theorem dX8_next_91 : decode cX8_next 91 = .ok (.if_icmp .ne 7, 3) := by decide +kernel
theorem dX8_next_94 : decode cX8_next 94 = .ok (.iconst 3, 1) := by decide +kernel
theorem dX8_next_95 : decode cX8_next 95 = .ok (.goto 4, 3) := by decide +kernel
theorem dX8_next_98 : decode cX8_next 98 = .ok (.iconst (-1), 1) := by decide +kernel
theorem dX8_next_99 : decode cX8_next 99 = .ok (.ireturn, 1) := by decide +kernel
theorem dX8_next_100 : decode cX8_next 100 = .ok (.iload_n 2, 1) := by decide +kernel
theorem dX8_next_101 : decode cX8_next 101 = .ok (.bipush 63, 2) := by decide +kernel
theorem dX8_next_103 : decode cX8_next 103 = .ok (.if_icmp .ne 7, 3) := by decide +kernel
theorem dX8_next_106 : decode cX8_next 106 = .ok (.iconst 4, 1) := by decide +kernel
theorem dX8_next_107 : decode cX8_next 107 = .ok (.goto 4, 3) := by decide +kernel
theorem dX8_next_110 : decode cX8_next 110 = .ok (.iconst (-1), 1) := by decide +kernel
theorem dX8_next_111 : decode cX8_next 111 = .ok (.ireturn, 1) := by decide +kernel
theorem dX8_next_112 : decode cX8_next 112 = .ok (.iload_n 2, 1) := by decide +kernel
theorem dX8_next_113 : decode cX8_next 113 = .ok (.bipush 33, 2) := by decide +kernel
theorem dX8_next_115 : decode cX8_next 115 = .ok (.if_icmp .eq 9, 3) := by decide +kernel
theorem dX8_next_118 : decode cX8_next 118 = .ok (.iload_n 2, 1) := by decide +kernel
theorem dX8_next_119 : decode cX8_next 119 = .ok (.bipush 40, 2) := by decide +kernel
theorem dX8_next_121 : decode cX8_next 121 = .ok (.if_icmp .ne 7, 3) := by decide +kernel
theorem dX8_next_124 : decode cX8_next 124 = .ok (.iconst 4, 1) := by decide +kernel
theorem dX8_next_125 : decode cX8_next 125 = .ok (.goto 15, 3) := by decide +kernel
theorem dX8_next_128 : decode cX8_next 128 = .ok (.iload_n 2, 1) := by decide +kernel
theorem dX8_next_129 : decode cX8_next 129 = .ok (.invokestatic 143, 3) := by decide +kernel
theorem dX8_next_132 : decode cX8_next 132 = .ok (.ifCond .eq 7, 3) := by decide +kernel
theorem dX8_next_135 : decode cX8_next 135 = .ok (.iconst 5, 1) := by decide +kernel
theorem dX8_next_136 : decode cX8_next 136 = .ok (.goto 4, 3) := by decide +kernel
theorem dX8_next_139 : decode cX8_next 139 = .ok (.iconst (-1), 1) := by decide +kernel
theorem dX8_next_140 : decode cX8_next 140 = .ok (.ireturn, 1) := by decide +kernel
theorem dX8_next_141 : decode cX8_next 141 = .ok (.iload_n 2, 1) := by decide +kernel
theorem dX8_next_142 : decode cX8_next 142 = .ok (.bipush 60, 2) := by decide +kernel
theorem dX8_next_144 : decode cX8_next 144 = .ok (.bipush 62, 2) := by decide +kernel
theorem dX8_next_146 : decode cX8_next 146 = .ok (.invokestatic 88, 3) := by decide +kernel
theorem dX8_next_149 : decode cX8_next 149 = .ok (.ifCond .eq 8, 3) := by decide +kernel
theorem dX8_next_152 : decode cX8_next 152 = .ok (.bipush 6, 2) := by decide +kernel
theorem dX8_next_154 : decode cX8_next 154 = .ok (.goto 4, 3) := by decide +kernel
theorem dX8_next_157 : decode cX8_next 157 = .ok (.iconst (-1), 1) := by decide +kernel
theorem dX8_next_158 : decode cX8_next 158 = .ok (.ireturn, 1) := by decide +kernel
theorem dX8_next_159 : decode cX8_next 159 = .ok (.iload 4, 2) := by decide +kernel
theorem dX8_next_161 : decode cX8_next 161 = .ok (.ifCond .eq 8, 3) := by decide +kernel
theorem dX8_next_164 : decode cX8_next 164 = .ok (.bipush 7, 2) := by decide +kernel
theorem dX8_next_166 : decode cX8_next 166 = .ok (.goto 4, 3) := by decide +kernel
theorem dX8_next_169 : decode cX8_next 169 = .ok (.iconst (-1), 1) := by decide +kernel
theorem dX8_next_170 : decode cX8_next 170 = .ok (.ireturn, 1) := by decide +kernel
theorem dX8_next_171 : decode cX8_next 171 = .ok (.iload_n 1, 1) := by decide +kernel
theorem dX8_next_172 : decode cX8_next 172 = .ok (.bipush 7, 2) := by decide +kernel
theorem dX8_next_174 : decode cX8_next 174 = .ok (.if_icmp .ne 11, 3) := by decide +kernel
theorem dX8_next_177 : decode cX8_next 177 = .ok (.iload 4, 2) := by decide +kernel
theorem dX8_next_179 : decode cX8_next 179 = .ok (.ifCond .eq 6, 3) := by decide +kernel
theorem dX8_next_182 : decode cX8_next 182 = .ok (.bipush 8, 2) := by decide +kernel
theorem dX8_next_184 : decode cX8_next 184 = .ok (.ireturn, 1) := by decide +kernel
theorem dX8_next_185 : decode cX8_next 185 = .ok (.iload_n 2, 1) := by decide +kernel
theorem dX8_next_186 : decode cX8_next 186 = .ok (.bipush 38, 2) := by decide +kernel
theorem dX8_next_188 : decode cX8_next 188 = .ok (.if_icmp .eq 9, 3) := by decide +kernel
theorem dX8_next_191 : decode cX8_next 191 = .ok (.iload_n 2, 1) := by decide +kernel
theorem dX8_next_192 : decode cX8_next 192 = .ok (.bipush 124, 2) := by decide +kernel
theorem dX8_next_194 : decode cX8_next 194 = .ok (.if_icmp .ne 7, 3) := by decide +kernel
theorem dX8_next_197 : decode cX8_next 197 = .ok (.iconst 4, 1) := by decide +kernel
theorem dX8_next_198 : decode cX8_next 198 = .ok (.goto 19, 3) := by decide +kernel
theorem dX8_next_201 : decode cX8_next 201 = .ok (.iload_n 2, 1) := by decide +kernel
theorem dX8_next_202 : decode cX8_next 202 = .ok (.bipush 41, 2) := by decide +kernel
theorem dX8_next_204 : decode cX8_next 204 = .ok (.if_icmp .ne 12, 3) := by decide +kernel
theorem dX8_next_207 : decode cX8_next 207 = .ok (.iload_n 3, 1) := by decide +kernel
theorem dX8_next_208 : decode cX8_next 208 = .ok (.ifCond .le 8, 3) := by decide +kernel
theorem dX8_next_211 : decode cX8_next 211 = .ok (.bipush 8, 2) := by decide +kernel
theorem dX8_next_213 : decode cX8_next 213 = .ok (.goto 4, 3) := by decide +kernel
theorem dX8_next_216 : decode cX8_next 216 = .ok (.iconst (-1), 1) := by decide +kernel
theorem dX8_next_217 : decode cX8_next 217 = .ok (.ireturn, 1) := by decide +kernel
theorem dX8_number_0 : decode cX8_number 0 = .ok (.aload_n 0, 1) := by decide +kernel
theorem dX8_number_1 : decode cX8_number 1 = .ok (.iload_n 1, 1) := by decide +kernel
theorem dX8_number_2 : decode cX8_number 2 = .ok (.invokevirtual 103, 3) := by decide +kernel
theorem dX8_number_5 : decode cX8_number 5 = .ok (.ifCond .ne 6, 3) := by decide +kernel
theorem dX8_number_8 : decode cX8_number 8 = .ok (.bipush (-101), 2) := by decide +kernel
theorem dX8_number_10 : decode cX8_number 10 = .ok (.ireturn, 1) := by decide +kernel
theorem dX8_number_11 : decode cX8_number 11 = .ok (.iload_n 2, 1) := by decide +kernel
theorem dX8_number_12 : decode cX8_number 12 = .ok (.iconst 1, 1) := by decide +kernel
theorem dX8_number_13 : decode cX8_number 13 = .ok (.bipush 60, 2) := by decide +kernel
theorem dX8_number_15 : decode cX8_number 15 = .ok (.invokestatic 88, 3) := by decide +kernel
theorem dX8_number_18 : decode cX8_number 18 = .ok (.ifCond .eq 23, 3) := by decide +kernel
theorem dX8_number_21 : decode cX8_number 21 = .ok (.aload_n 0, 1) := by decide +kernel
theorem dX8_number_22 : decode cX8_number 22 = .ok (.getfield 13, 3) := by decide +kernel
theorem dX8_number_25 : decode cX8_number 25 = .ok (.iload_n 1, 1) := by decide +kernel
theorem dX8_number_26 : decode cX8_number 26 = .ok (.iaload, 1) := by decide +kernel
theorem dX8_number_27 : decode cX8_number 27 = .ok (.iconst 1, 1) := by decide +kernel
theorem dX8_number_28 : decode cX8_number 28 = .ok (.if_icmp .ne 16, 3) := by decide +kernel
theorem dX8_number_31 : decode cX8_number 31 = .ok (.iload_n 2, 1) := by decide +kernel
theorem dX8_number_32 : decode cX8_number 32 = .ok (.aload_n 0, 1) := by decide +kernel
theorem dX8_number_33 : decode cX8_number 33 = .ok (.getfield 19, 3) := by decide +kernel
theorem dX8_number_36 : decode cX8_number 36 = .ok (.iload_n 1, 1) := by decide +kernel
theorem dX8_number_37 : decode cX8_number 37 = .ok (.iaload, 1) := by decide +kernel
theorem dX8_number_38 : decode cX8_number 38 = .ok (.if_icmp .ge 6, 3) := by decide +kernel
theorem dX8_number_41 : decode cX8_number 41 = .ok (.bipush (-102), 2) := by decide +kernel
theorem dX8_number_43 : decode cX8_number 43 = .ok (.ireturn, 1) := by decide +kernel
theorem dX8_number_44 : decode cX8_number 44 = .ok (.aload_n 0, 1) := by decide +kernel
theorem dX8_number_45 : decode cX8_number 45 = .ok (.getfield 16, 3) := by decide +kernel
theorem dX8_number_48 : decode cX8_number 48 = .ok (.iload_n 1, 1) := by decide +kernel
theorem dX8_number_49 : decode cX8_number 49 = .ok (.iaload, 1) := by decide +kernel
theorem dX8_number_50 : decode cX8_number 50 = .ok (.istore_n 3, 1) := by decide +kernel
theorem dX8_number_51 : decode cX8_number 51 = .ok (.aload_n 0, 1) := by decide +kernel
theorem dX8_number_52 : decode cX8_number 52 = .ok (.getfield 16, 3) := by decide +kernel
theorem dX8_number_55 : decode cX8_number 55 = .ok (.iload_n 1, 1) := by decide +kernel
theorem dX8_number_56 : decode cX8_number 56 = .ok (.iload_n 2, 1) := by decide +kernel
theorem dX8_number_57 : decode cX8_number 57 = .ok (.iastore, 1) := by decide +kernel
theorem dX8_number_58 : decode cX8_number 58 = .ok (.iload_n 3, 1) := by decide +kernel
theorem dX8_number_59 : decode cX8_number 59 = .ok (.ireturn, 1) := by decide +kernel
theorem dX8_ones_0 : decode cX8_ones 0 = .ok (.iconst 0, 1) := by decide +kernel
theorem dX8_ones_1 : decode cX8_ones 1 = .ok (.istore_n 1, 1) := by decide +kernel
theorem dX8_ones_2 : decode cX8_ones 2 = .ok (.iload_n 0, 1) := by decide +kernel
theorem dX8_ones_3 : decode cX8_ones 3 = .ok (.istore_n 2, 1) := by decide +kernel
theorem dX8_ones_4 : decode cX8_ones 4 = .ok (.iload_n 2, 1) := by decide +kernel
theorem dX8_ones_5 : decode cX8_ones 5 = .ok (.ifCond .eq 15, 3) := by decide +kernel
theorem dX8_ones_8 : decode cX8_ones 8 = .ok (.iinc 1 1, 3) := by decide +kernel
theorem dX8_ones_11 : decode cX8_ones 11 = .ok (.iload_n 2, 1) := by decide +kernel
theorem dX8_ones_12 : decode cX8_ones 12 = .ok (.iload_n 2, 1) := by decide +kernel
theorem dX8_ones_13 : decode cX8_ones 13 = .ok (.iconst 1, 1) := by decide +kernel
theorem dX8_ones_14 : decode cX8_ones 14 = .ok (.isub, 1) := by decide +kernel
theorem dX8_ones_15 : decode cX8_ones 15 = .ok (.iand, 1) := by decide +kernel
theorem dX8_ones_16 : decode cX8_ones 16 = .ok (.istore_n 2, 1) := by decide +kernel
theorem dX8_ones_17 : decode cX8_ones 17 = .ok (.goto (-13), 3) := by decide +kernel
theorem dX8_ones_20 : decode cX8_ones 20 = .ok (.iload_n 1, 1) := by decide +kernel
theorem dX8_ones_21 : decode cX8_ones 21 = .ok (.ireturn, 1) := by decide +kernel
theorem dX8_open_0 : decode cX8_open 0 = .ok (.iload_n 1, 1) := by decide +kernel
theorem dX8_open_1 : decode cX8_open 1 = .ok (.invokestatic 160, 3) := by decide +kernel
theorem dX8_open_4 : decode cX8_open 4 = .ok (.ifCond .ne 6, 3) := by decide +kernel
theorem dX8_open_7 : decode cX8_open 7 = .ok (.bipush (-101), 2) := by decide +kernel
theorem dX8_open_9 : decode cX8_open 9 = .ok (.ireturn, 1) := by decide +kernel
theorem dX8_open_10 : decode cX8_open 10 = .ok (.iload_n 2, 1) := by decide +kernel
theorem dX8_open_11 : decode cX8_open 11 = .ok (.invokestatic 92, 3) := by decide +kernel
theorem dX8_open_14 : decode cX8_open 14 = .ok (.ifCond .ne 6, 3) := by decide +kernel
theorem dX8_open_17 : decode cX8_open 17 = .ok (.bipush (-102), 2) := by decide +kernel
theorem dX8_open_19 : decode cX8_open 19 = .ok (.ireturn, 1) := by decide +kernel
theorem dX8_open_20 : decode cX8_open 20 = .ok (.aload_n 0, 1) := by decide +kernel
theorem dX8_open_21 : decode cX8_open 21 = .ok (.iload_n 1, 1) := by decide +kernel
theorem dX8_open_22 : decode cX8_open 22 = .ok (.iload_n 2, 1) := by decide +kernel
theorem dX8_open_23 : decode cX8_open 23 = .ok (.aload_n 0, 1) := by decide +kernel
theorem dX8_open_24 : decode cX8_open 24 = .ok (.iload_n 1, 1) := by decide +kernel
theorem dX8_open_25 : decode cX8_open 25 = .ok (.iload_n 2, 1) := by decide +kernel
theorem dX8_open_26 : decode cX8_open 26 = .ok (.invokevirtual 219, 3) := by decide +kernel
theorem dX8_open_29 : decode cX8_open 29 = .ok (.iconst (-1), 1) := by decide +kernel
theorem dX8_open_30 : decode cX8_open 30 = .ok (.invokevirtual 222, 3) := by decide +kernel
theorem dX8_open_33 : decode cX8_open 33 = .ok (.aload_n 0, 1) := by decide +kernel
theorem dX8_open_34 : decode cX8_open 34 = .ok (.iload_n 2, 1) := by decide +kernel
theorem dX8_open_35 : decode cX8_open 35 = .ok (.invokevirtual 234, 3) := by decide +kernel
theorem dX8_open_38 : decode cX8_open 38 = .ok (.ireturn, 1) := by decide +kernel
theorem dX8_openGroup_0 : decode cX8_openGroup 0 = .ok (.aload_n 0, 1) := by decide +kernel
theorem dX8_openGroup_1 : decode cX8_openGroup 1 = .ok (.dup, 1) := by decide +kernel
theorem dX8_openGroup_2 : decode cX8_openGroup 2 = .ok (.getfield 163, 3) := by decide +kernel
theorem dX8_openGroup_5 : decode cX8_openGroup 5 = .ok (.iconst 1, 1) := by decide +kernel
theorem dX8_openGroup_6 : decode cX8_openGroup 6 = .ok (.iadd, 1) := by decide +kernel
theorem dX8_openGroup_7 : decode cX8_openGroup 7 = .ok (.putfield 163, 3) := by decide +kernel
theorem dX8_openGroup_10 : decode cX8_openGroup 10 = .ok (.aload_n 0, 1) := by decide +kernel
theorem dX8_openGroup_11 : decode cX8_openGroup 11 = .ok (.getfield 56, 3) := by decide +kernel
theorem dX8_openGroup_14 : decode cX8_openGroup 14 = .ok (.aload_n 0, 1) := by decide +kernel
theorem dX8_openGroup_15 : decode cX8_openGroup 15 = .ok (.getfield 163, 3) := by decide +kernel
theorem dX8_openGroup_18 : decode cX8_openGroup 18 = .ok (.iconst 0, 1) := by decide +kernel
theorem dX8_openGroup_19 : decode cX8_openGroup 19 = .ok (.bastore, 1) := by decide +kernel
theorem dX8_openGroup_20 : decode cX8_openGroup 20 = .ok (.aload_n 0, 1) := by decide +kernel
theorem dX8_openGroup_21 : decode cX8_openGroup 21 = .ok (.getfield 60, 3) := by decide +kernel
theorem dX8_openGroup_24 : decode cX8_openGroup 24 = .ok (.aload_n 0, 1) := by decide +kernel
theorem dX8_openGroup_25 : decode cX8_openGroup 25 = .ok (.getfield 163, 3) := by decide +kernel
theorem dX8_openGroup_28 : decode cX8_openGroup 28 = .ok (.iconst 1, 1) := by decide +kernel
theorem dX8_openGroup_29 : decode cX8_openGroup 29 = .ok (.bastore, 1) := by decide +kernel
theorem dX8_openGroup_30 : decode cX8_openGroup 30 = .ok (.aload_n 0, 1) := by decide +kernel
theorem dX8_openGroup_31 : decode cX8_openGroup 31 = .ok (.getfield 63, 3) := by decide +kernel
theorem dX8_openGroup_34 : decode cX8_openGroup 34 = .ok (.aload_n 0, 1) := by decide +kernel
theorem dX8_openGroup_35 : decode cX8_openGroup 35 = .ok (.getfield 163, 3) := by decide +kernel
theorem dX8_openGroup_38 : decode cX8_openGroup 38 = .ok (.iconst 0, 1) := by decide +kernel
theorem dX8_openGroup_39 : decode cX8_openGroup 39 = .ok (.bastore, 1) := by decide +kernel
theorem dX8_openGroup_40 : decode cX8_openGroup 40 = .ok (.return_, 1) := by decide +kernel
theorem dX8_openNow_0 : decode cX8_openNow 0 = .ok (.iconst 0, 1) := by decide +kernel
theorem dX8_openNow_1 : decode cX8_openNow 1 = .ok (.istore_n 2, 1) := by decide +kernel
theorem dX8_openNow_2 : decode cX8_openNow 2 = .ok (.iconst 0, 1) := by decide +kernel
theorem dX8_openNow_3 : decode cX8_openNow 3 = .ok (.istore_n 3, 1) := by decide +kernel
theorem dX8_openNow_4 : decode cX8_openNow 4 = .ok (.iload_n 3, 1) := by decide +kernel
theorem dX8_openNow_5 : decode cX8_openNow 5 = .ok (.aload_n 0, 1) := by decide +kernel
theorem dX8_openNow_6 : decode cX8_openNow 6 = .ok (.getfield 84, 3) := by decide +kernel
theorem dX8_openNow_9 : decode cX8_openNow 9 = .ok (.if_icmp .ge 38, 3) := by decide +kernel
theorem dX8_openNow_12 : decode cX8_openNow 12 = .ok (.iload_n 2, 1) := by decide +kernel
theorem dX8_openNow_13 : decode cX8_openNow 13 = .ok (.aload_n 0, 1) := by decide +kernel
theorem dX8_openNow_14 : decode cX8_openNow 14 = .ok (.iload_n 3, 1) := by decide +kernel
theorem dX8_openNow_15 : decode cX8_openNow 15 = .ok (.iload_n 1, 1) := by decide +kernel
theorem dX8_openNow_16 : decode cX8_openNow 16 = .ok (.invokevirtual 188, 3) := by decide +kernel
theorem dX8_openNow_19 : decode cX8_openNow 19 = .ok (.ifCond .eq 19, 3) := by decide +kernel
theorem dX8_openNow_22 : decode cX8_openNow 22 = .ok (.aload_n 0, 1) := by decide +kernel
theorem dX8_openNow_23 : decode cX8_openNow 23 = .ok (.getfield 75, 3) := by decide +kernel
theorem dX8_openNow_26 : decode cX8_openNow 26 = .ok (.iload_n 3, 1) := by decide +kernel
theorem dX8_openNow_27 : decode cX8_openNow 27 = .ok (.iaload, 1) := by decide +kernel
theorem dX8_openNow_28 : decode cX8_openNow 28 = .ok (.aload_n 0, 1) := by decide +kernel
theorem dX8_openNow_29 : decode cX8_openNow 29 = .ok (.getfield 72, 3) := by decide +kernel
theorem dX8_openNow_32 : decode cX8_openNow 32 = .ok (.iload_n 3, 1) := by decide +kernel
theorem dX8_openNow_33 : decode cX8_openNow 33 = .ok (.iaload, 1) := by decide +kernel
theorem dX8_openNow_34 : decode cX8_openNow 34 = .ok (.isub, 1) := by decide +kernel
theorem dX8_openNow_35 : decode cX8_openNow 35 = .ok (.goto 4, 3) := by decide +kernel
theorem dX8_openNow_38 : decode cX8_openNow 38 = .ok (.iconst 0, 1) := by decide +kernel
theorem dX8_openNow_39 : decode cX8_openNow 39 = .ok (.iadd, 1) := by decide +kernel
theorem dX8_openNow_40 : decode cX8_openNow 40 = .ok (.istore_n 2, 1) := by decide +kernel
theorem dX8_openNow_41 : decode cX8_openNow 41 = .ok (.iinc 3 1, 3) := by decide +kernel
theorem dX8_openNow_44 : decode cX8_openNow 44 = .ok (.goto (-40), 3) := by decide +kernel
theorem dX8_openNow_47 : decode cX8_openNow 47 = .ok (.aload_n 0, 1) := by decide +kernel
theorem dX8_openNow_48 : decode cX8_openNow 48 = .ok (.getfield 201, 3) := by decide +kernel
theorem dX8_openNow_51 : decode cX8_openNow 51 = .ok (.ifCond .eq 7, 3) := by decide +kernel
theorem dX8_openNow_54 : decode cX8_openNow 54 = .ok (.iload_n 2, 1) := by decide +kernel
theorem dX8_openNow_55 : decode cX8_openNow 55 = .ok (.goto 4, 3) := by decide +kernel
theorem dX8_openNow_58 : decode cX8_openNow 58 = .ok (.iconst (-1), 1) := by decide +kernel
theorem dX8_openNow_59 : decode cX8_openNow 59 = .ok (.ireturn, 1) := by decide +kernel
theorem dX8_otherLength_0 : decode cX8_otherLength 0 = .ok (.aload_n 0, 1) := by decide +kernel
theorem dX8_otherLength_1 : decode cX8_otherLength 1 = .ok (.getfield 13, 3) := by decide +kernel
theorem dX8_otherLength_4 : decode cX8_otherLength 4 = .ok (.iload_n 1, 1) := by decide +kernel
theorem dX8_otherLength_5 : decode cX8_otherLength 5 = .ok (.iaload, 1) := by decide +kernel
theorem dX8_otherLength_6 : decode cX8_otherLength 6 = .ok (.bipush 6, 2) := by decide +kernel
theorem dX8_otherLength_8 : decode cX8_otherLength 8 = .ok (.if_icmp .ne 7, 3) := by decide +kernel
theorem dX8_otherLength_11 : decode cX8_otherLength 11 = .ok (.iconst 0, 1) := by decide +kernel
theorem dX8_otherLength_12 : decode cX8_otherLength 12 = .ok (.goto 9, 3) := by decide +kernel
theorem dX8_otherLength_15 : decode cX8_otherLength 15 = .ok (.aload_n 0, 1) := by decide +kernel
theorem dX8_otherLength_16 : decode cX8_otherLength 16 = .ok (.getfield 19, 3) := by decide +kernel
theorem dX8_otherLength_19 : decode cX8_otherLength 19 = .ok (.iload_n 1, 1) := by decide +kernel
theorem dX8_otherLength_20 : decode cX8_otherLength 20 = .ok (.iaload, 1) := by decide +kernel
theorem dX8_otherLength_21 : decode cX8_otherLength 21 = .ok (.istore_n 3, 1) := by decide +kernel
theorem dX8_otherLength_22 : decode cX8_otherLength 22 = .ok (.iload_n 3, 1) := by decide +kernel
theorem dX8_otherLength_23 : decode cX8_otherLength 23 = .ok (.iload_n 2, 1) := by decide +kernel
theorem dX8_otherLength_24 : decode cX8_otherLength 24 = .ok (.isub, 1) := by decide +kernel
theorem dX8_otherLength_25 : decode cX8_otherLength 25 = .ok (.ifCond .ge 7, 3) := by decide +kernel
theorem dX8_otherLength_28 : decode cX8_otherLength 28 = .ok (.iconst 0, 1) := by decide +kernel
theorem dX8_otherLength_29 : decode cX8_otherLength 29 = .ok (.goto 6, 3) := by decide +kernel
theorem dX8_otherLength_32 : decode cX8_otherLength 32 = .ok (.iload_n 3, 1) := by decide +kernel
theorem dX8_otherLength_33 : decode cX8_otherLength 33 = .ok (.iload_n 2, 1) := by decide +kernel
theorem dX8_otherLength_34 : decode cX8_otherLength 34 = .ok (.isub, 1) := by decide +kernel
theorem dX8_otherLength_35 : decode cX8_otherLength 35 = .ok (.ireturn, 1) := by decide +kernel
theorem dX8_part_0 : decode cX8_part 0 = .ok (.aload_n 0, 1) := by decide +kernel
theorem dX8_part_1 : decode cX8_part 1 = .ok (.iconst 0, 1) := by decide +kernel
theorem dX8_part_2 : decode cX8_part 2 = .ok (.bipush 9, 2) := by decide +kernel
theorem dX8_part_4 : decode cX8_part 4 = .ok (.aload_n 0, 1) := by decide +kernel
theorem dX8_part_5 : decode cX8_part 5 = .ok (.iconst 0, 1) := by decide +kernel
theorem dX8_part_6 : decode cX8_part 6 = .ok (.bipush 9, 2) := by decide +kernel
theorem dX8_part_8 : decode cX8_part 8 = .ok (.invokevirtual 219, 3) := by decide +kernel
theorem dX8_part_11 : decode cX8_part 11 = .ok (.iconst (-1), 1) := by decide +kernel
theorem dX8_part_12 : decode cX8_part 12 = .ok (.invokevirtual 222, 3) := by decide +kernel
theorem dX8_part_15 : decode cX8_part 15 = .ok (.iconst 0, 1) := by decide +kernel
theorem dX8_part_16 : decode cX8_part 16 = .ok (.istore_n 1, 1) := by decide +kernel
theorem dX8_part_17 : decode cX8_part 17 = .ok (.iload_n 1, 1) := by decide +kernel
theorem dX8_part_18 : decode cX8_part 18 = .ok (.aload_n 0, 1) := by decide +kernel
theorem dX8_part_19 : decode cX8_part 19 = .ok (.getfield 84, 3) := by decide +kernel
theorem dX8_part_22 : decode cX8_part 22 = .ok (.if_icmp .ge 33, 3) := by decide +kernel
theorem dX8_part_25 : decode cX8_part 25 = .ok (.aload_n 0, 1) := by decide +kernel
theorem dX8_part_26 : decode cX8_part 26 = .ok (.getfield 78, 3) := by decide +kernel
theorem dX8_part_29 : decode cX8_part 29 = .ok (.iload_n 1, 1) := by decide +kernel
theorem dX8_part_30 : decode cX8_part 30 = .ok (.aload_n 0, 1) := by decide +kernel
theorem dX8_part_31 : decode cX8_part 31 = .ok (.getfield 72, 3) := by decide +kernel
theorem dX8_part_34 : decode cX8_part 34 = .ok (.iload_n 1, 1) := by decide +kernel
theorem dX8_part_35 : decode cX8_part 35 = .ok (.iaload, 1) := by decide +kernel
theorem dX8_part_36 : decode cX8_part 36 = .ok (.iastore, 1) := by decide +kernel
theorem dX8_part_37 : decode cX8_part 37 = .ok (.aload_n 0, 1) := by decide +kernel
theorem dX8_part_38 : decode cX8_part 38 = .ok (.getfield 81, 3) := by decide +kernel
theorem dX8_part_41 : decode cX8_part 41 = .ok (.iload_n 1, 1) := by decide +kernel
theorem dX8_part_42 : decode cX8_part 42 = .ok (.aload_n 0, 1) := by decide +kernel
theorem dX8_part_43 : decode cX8_part 43 = .ok (.getfield 75, 3) := by decide +kernel
theorem dX8_part_46 : decode cX8_part 46 = .ok (.iload_n 1, 1) := by decide +kernel
theorem dX8_part_47 : decode cX8_part 47 = .ok (.iaload, 1) := by decide +kernel
theorem dX8_part_48 : decode cX8_part 48 = .ok (.iastore, 1) := by decide +kernel
theorem dX8_part_49 : decode cX8_part 49 = .ok (.iinc 1 1, 3) := by decide +kernel
theorem dX8_part_52 : decode cX8_part 52 = .ok (.goto (-35), 3) := by decide +kernel
theorem dX8_part_55 : decode cX8_part 55 = .ok (.aload_n 0, 1) := by decide +kernel
theorem dX8_part_56 : decode cX8_part 56 = .ok (.iconst 1, 1) := by decide +kernel
theorem dX8_part_57 : decode cX8_part 57 = .ok (.bipush 9, 2) := by decide +kernel
theorem dX8_part_59 : decode cX8_part 59 = .ok (.aload_n 0, 1) := by decide +kernel
theorem dX8_part_60 : decode cX8_part 60 = .ok (.iconst 1, 1) := by decide +kernel
theorem dX8_part_61 : decode cX8_part 61 = .ok (.bipush 9, 2) := by decide +kernel
theorem dX8_part_63 : decode cX8_part 63 = .ok (.invokevirtual 219, 3) := by decide +kernel
theorem dX8_part_66 : decode cX8_part 66 = .ok (.iconst (-1), 1) := by decide +kernel
theorem dX8_part_67 : decode cX8_part 67 = .ok (.invokevirtual 222, 3) := by decide +kernel
theorem dX8_part_70 : decode cX8_part 70 = .ok (.iconst 0, 1) := by decide +kernel
theorem dX8_part_71 : decode cX8_part 71 = .ok (.istore_n 1, 1) := by decide +kernel
theorem dX8_part_72 : decode cX8_part 72 = .ok (.iload_n 1, 1) := by decide +kernel
theorem dX8_part_73 : decode cX8_part 73 = .ok (.aload_n 0, 1) := by decide +kernel
theorem dX8_part_74 : decode cX8_part 74 = .ok (.getfield 84, 3) := by decide +kernel
theorem dX8_part_77 : decode cX8_part 77 = .ok (.if_icmp .ge 41, 3) := by decide +kernel
theorem dX8_part_80 : decode cX8_part 80 = .ok (.aload_n 0, 1) := by decide +kernel
theorem dX8_part_81 : decode cX8_part 81 = .ok (.getfield 78, 3) := by decide +kernel
theorem dX8_part_84 : decode cX8_part 84 = .ok (.iload_n 1, 1) := by decide +kernel
theorem dX8_part_85 : decode cX8_part 85 = .ok (.iaload, 1) := by decide +kernel
theorem dX8_part_86 : decode cX8_part 86 = .ok (.aload_n 0, 1) := by decide +kernel
theorem dX8_part_87 : decode cX8_part 87 = .ok (.getfield 72, 3) := by decide +kernel
theorem dX8_part_90 : decode cX8_part 90 = .ok (.iload_n 1, 1) := by decide +kernel
theorem dX8_part_91 : decode cX8_part 91 = .ok (.iaload, 1) := by decide +kernel
theorem dX8_part_92 : decode cX8_part 92 = .ok (.if_icmp .ne 18, 3) := by decide +kernel
theorem dX8_part_95 : decode cX8_part 95 = .ok (.aload_n 0, 1) := by decide +kernel
theorem dX8_part_96 : decode cX8_part 96 = .ok (.getfield 81, 3) := by decide +kernel
theorem dX8_part_99 : decode cX8_part 99 = .ok (.iload_n 1, 1) := by decide +kernel
theorem dX8_part_100 : decode cX8_part 100 = .ok (.iaload, 1) := by decide +kernel
theorem dX8_part_101 : decode cX8_part 101 = .ok (.aload_n 0, 1) := by decide +kernel
theorem dX8_part_102 : decode cX8_part 102 = .ok (.getfield 75, 3) := by decide +kernel
theorem dX8_part_105 : decode cX8_part 105 = .ok (.iload_n 1, 1) := by decide +kernel
theorem dX8_part_106 : decode cX8_part 106 = .ok (.iaload, 1) := by decide +kernel
theorem dX8_part_107 : decode cX8_part 107 = .ok (.if_icmp .eq 5, 3) := by decide +kernel
theorem dX8_part_110 : decode cX8_part 110 = .ok (.iload_n 1, 1) := by decide +kernel
theorem dX8_part_111 : decode cX8_part 111 = .ok (.ireturn, 1) := by decide +kernel
theorem dX8_part_112 : decode cX8_part 112 = .ok (.iinc 1 1, 3) := by decide +kernel
theorem dX8_part_115 : decode cX8_part 115 = .ok (.goto (-43), 3) := by decide +kernel
theorem dX8_part_118 : decode cX8_part 118 = .ok (.iconst (-1), 1) := by decide +kernel
theorem dX8_part_119 : decode cX8_part 119 = .ok (.ireturn, 1) := by decide +kernel
theorem dX8_placeOf_0 : decode cX8_placeOf 0 = .ok (.iload_n 0, 1) := by decide +kernel
theorem dX8_placeOf_1 : decode cX8_placeOf 1 = .ok (.bipush 108, 2) := by decide +kernel
theorem dX8_placeOf_3 : decode cX8_placeOf 3 = .ok (.if_icmp .ne 7, 3) := by decide +kernel
theorem dX8_placeOf_6 : decode cX8_placeOf 6 = .ok (.iconst 0, 1) := by decide +kernel
theorem dX8_placeOf_7 : decode cX8_placeOf 7 = .ok (.goto 24, 3) := by decide +kernel
theorem dX8_placeOf_10 : decode cX8_placeOf 10 = .ok (.iload_n 0, 1) := by decide +kernel
theorem dX8_placeOf_11 : decode cX8_placeOf 11 = .ok (.bipush 107, 2) := by decide +kernel
theorem dX8_placeOf_13 : decode cX8_placeOf 13 = .ok (.if_icmp .ne 7, 3) := by decide +kernel
theorem dX8_placeOf_16 : decode cX8_placeOf 16 = .ok (.iconst 1, 1) := by decide +kernel
theorem dX8_placeOf_17 : decode cX8_placeOf 17 = .ok (.goto 14, 3) := by decide +kernel
theorem dX8_placeOf_20 : decode cX8_placeOf 20 = .ok (.iload_n 0, 1) := by decide +kernel
theorem dX8_placeOf_21 : decode cX8_placeOf 21 = .ok (.bipush 110, 2) := by decide +kernel
theorem dX8_placeOf_23 : decode cX8_placeOf 23 = .ok (.if_icmp .ne 7, 3) := by decide +kernel
theorem dX8_placeOf_26 : decode cX8_placeOf 26 = .ok (.iconst 2, 1) := by decide +kernel
theorem dX8_placeOf_27 : decode cX8_placeOf 27 = .ok (.goto 4, 3) := by decide +kernel
theorem dX8_placeOf_30 : decode cX8_placeOf 30 = .ok (.iconst 3, 1) := by decide +kernel
theorem dX8_placeOf_31 : decode cX8_placeOf 31 = .ok (.ireturn, 1) := by decide +kernel
theorem dX8_readText_0 : decode cX8_readText 0 = .ok (.iconst 0, 1) := by decide +kernel
theorem dX8_readText_1 : decode cX8_readText 1 = .ok (.istore_n 1, 1) := by decide +kernel
theorem dX8_readText_2 : decode cX8_readText 2 = .ok (.iconst 0, 1) := by decide +kernel
theorem dX8_readText_3 : decode cX8_readText 3 = .ok (.istore_n 2, 1) := by decide +kernel
theorem dX8_readText_4 : decode cX8_readText 4 = .ok (.iconst 0, 1) := by decide +kernel
theorem dX8_readText_5 : decode cX8_readText 5 = .ok (.istore_n 3, 1) := by decide +kernel
theorem dX8_readText_6 : decode cX8_readText 6 = .ok (.iconst 1, 1) := by decide +kernel
theorem dX8_readText_7 : decode cX8_readText 7 = .ok (.istore 4, 2) := by decide +kernel
theorem dX8_readText_9 : decode cX8_readText 9 = .ok (.iload_n 3, 1) := by decide +kernel
theorem dX8_readText_10 : decode cX8_readText 10 = .ok (.aload_n 0, 1) := by decide +kernel
theorem dX8_readText_11 : decode cX8_readText 11 = .ok (.getfield 140, 3) := by decide +kernel
theorem dX8_readText_14 : decode cX8_readText 14 = .ok (.if_icmp .ge 83, 3) := by decide +kernel
theorem dX8_readText_17 : decode cX8_readText 17 = .ok (.iload 4, 2) := by decide +kernel
theorem dX8_readText_19 : decode cX8_readText 19 = .ok (.ifCond .eq 78, 3) := by decide +kernel
theorem dX8_readText_22 : decode cX8_readText 22 = .ok (.aload_n 0, 1) := by decide +kernel
theorem dX8_readText_23 : decode cX8_readText 23 = .ok (.iload_n 1, 1) := by decide +kernel
theorem dX8_readText_24 : decode cX8_readText 24 = .ok (.aload_n 0, 1) := by decide +kernel
theorem dX8_readText_25 : decode cX8_readText 25 = .ok (.getfield 37, 3) := by decide +kernel
theorem dX8_readText_28 : decode cX8_readText 28 = .ok (.iload_n 3, 1) := by decide +kernel
theorem dX8_readText_29 : decode cX8_readText 29 = .ok (.baload, 1) := by decide +kernel
theorem dX8_readText_30 : decode cX8_readText 30 = .ok (.iload_n 2, 1) := by decide +kernel
theorem dX8_readText_31 : decode cX8_readText 31 = .ok (.invokevirtual 146, 3) := by decide +kernel
theorem dX8_readText_34 : decode cX8_readText 34 = .ok (.istore 5, 2) := by decide +kernel
theorem dX8_readText_36 : decode cX8_readText 36 = .ok (.iload 5, 2) := by decide +kernel
theorem dX8_readText_38 : decode cX8_readText 38 = .ok (.iconst (-1), 1) := by decide +kernel
theorem dX8_readText_39 : decode cX8_readText 39 = .ok (.if_icmp .eq 7, 3) := by decide +kernel
theorem dX8_readText_42 : decode cX8_readText 42 = .ok (.iconst 1, 1) := by decide +kernel
theorem dX8_readText_43 : decode cX8_readText 43 = .ok (.goto 4, 3) := by decide +kernel
theorem dX8_readText_46 : decode cX8_readText 46 = .ok (.iconst 0, 1) := by decide +kernel
theorem dX8_readText_47 : decode cX8_readText 47 = .ok (.istore 4, 2) := by decide +kernel
theorem dX8_readText_49 : decode cX8_readText 49 = .ok (.iload 4, 2) := by decide +kernel
theorem dX8_readText_51 : decode cX8_readText 51 = .ok (.ifCond .eq 43, 3) := by decide +kernel
theorem dX8_readText_54 : decode cX8_readText 54 = .ok (.iload_n 2, 1) := by decide +kernel
theorem dX8_readText_55 : decode cX8_readText 55 = .ok (.aload_n 0, 1) := by decide +kernel
theorem dX8_readText_56 : decode cX8_readText 56 = .ok (.getfield 37, 3) := by decide +kernel
theorem dX8_readText_59 : decode cX8_readText 59 = .ok (.iload_n 3, 1) := by decide +kernel
theorem dX8_readText_60 : decode cX8_readText 60 = .ok (.baload, 1) := by decide +kernel
theorem dX8_readText_61 : decode cX8_readText 61 = .ok (.bipush 40, 2) := by decide +kernel
theorem dX8_readText_63 : decode cX8_readText 63 = .ok (.if_icmp .ne 7, 3) := by decide +kernel
theorem dX8_readText_66 : decode cX8_readText 66 = .ok (.iconst 1, 1) := by decide +kernel
theorem dX8_readText_67 : decode cX8_readText 67 = .ok (.goto 19, 3) := by decide +kernel
theorem dX8_readText_70 : decode cX8_readText 70 = .ok (.aload_n 0, 1) := by decide +kernel
theorem dX8_readText_71 : decode cX8_readText 71 = .ok (.getfield 37, 3) := by decide +kernel
theorem dX8_readText_74 : decode cX8_readText 74 = .ok (.iload_n 3, 1) := by decide +kernel
theorem dX8_readText_75 : decode cX8_readText 75 = .ok (.baload, 1) := by decide +kernel
theorem dX8_readText_76 : decode cX8_readText 76 = .ok (.bipush 41, 2) := by decide +kernel
theorem dX8_readText_78 : decode cX8_readText 78 = .ok (.if_icmp .ne 7, 3) := by decide +kernel
theorem dX8_readText_81 : decode cX8_readText 81 = .ok (.iconst (-1), 1) := by decide +kernel
theorem dX8_readText_82 : decode cX8_readText 82 = .ok (.goto 4, 3) := by decide +kernel
theorem dX8_readText_85 : decode cX8_readText 85 = .ok (.iconst 0, 1) := by decide +kernel
theorem dX8_readText_86 : decode cX8_readText 86 = .ok (.iadd, 1) := by decide +kernel
theorem dX8_readText_87 : decode cX8_readText 87 = .ok (.istore_n 2, 1) := by decide +kernel
theorem dX8_readText_88 : decode cX8_readText 88 = .ok (.iload 5, 2) := by decide +kernel
theorem dX8_readText_90 : decode cX8_readText 90 = .ok (.istore_n 1, 1) := by decide +kernel
theorem dX8_readText_91 : decode cX8_readText 91 = .ok (.iinc 3 1, 3) := by decide +kernel
theorem dX8_readText_94 : decode cX8_readText 94 = .ok (.goto (-85), 3) := by decide +kernel
theorem dX8_readText_97 : decode cX8_readText 97 = .ok (.aload_n 0, 1) := by decide +kernel
theorem dX8_readText_98 : decode cX8_readText 98 = .ok (.iload_n 3, 1) := by decide +kernel
theorem dX8_readText_99 : decode cX8_readText 99 = .ok (.putfield 150, 3) := by decide +kernel
theorem dX8_readText_102 : decode cX8_readText 102 = .ok (.aload_n 0, 1) := by decide +kernel
theorem dX8_readText_103 : decode cX8_readText 103 = .ok (.iload_n 3, 1) := by decide +kernel
theorem dX8_readText_104 : decode cX8_readText 104 = .ok (.aload_n 0, 1) := by decide +kernel
theorem dX8_readText_105 : decode cX8_readText 105 = .ok (.getfield 140, 3) := by decide +kernel
theorem dX8_readText_108 : decode cX8_readText 108 = .ok (.if_icmp .ne 22, 3) := by decide +kernel
theorem dX8_readText_111 : decode cX8_readText 111 = .ok (.iload_n 2, 1) := by decide +kernel
theorem dX8_readText_112 : decode cX8_readText 112 = .ok (.ifCond .ne 18, 3) := by decide +kernel
theorem dX8_readText_115 : decode cX8_readText 115 = .ok (.iload_n 1, 1) := by decide +kernel
theorem dX8_readText_116 : decode cX8_readText 116 = .ok (.iconst 3, 1) := by decide +kernel
theorem dX8_readText_117 : decode cX8_readText 117 = .ok (.if_icmp .eq 9, 3) := by decide +kernel
theorem dX8_readText_120 : decode cX8_readText 120 = .ok (.iload_n 1, 1) := by decide +kernel
theorem dX8_readText_121 : decode cX8_readText 121 = .ok (.bipush 6, 2) := by decide +kernel
theorem dX8_readText_123 : decode cX8_readText 123 = .ok (.if_icmp .le 7, 3) := by decide +kernel
theorem dX8_readText_126 : decode cX8_readText 126 = .ok (.iconst 1, 1) := by decide +kernel
theorem dX8_readText_127 : decode cX8_readText 127 = .ok (.goto 4, 3) := by decide +kernel
theorem dX8_readText_130 : decode cX8_readText 130 = .ok (.iconst 0, 1) := by decide +kernel
theorem dX8_readText_131 : decode cX8_readText 131 = .ok (.putfield 153, 3) := by decide +kernel
theorem dX8_readText_134 : decode cX8_readText 134 = .ok (.return_, 1) := by decide +kernel
theorem dX8_reign_0 : decode cX8_reign 0 = .ok (.iload_n 1, 1) := by decide +kernel
theorem dX8_reign_1 : decode cX8_reign 1 = .ok (.iconst 0, 1) := by decide +kernel
theorem dX8_reign_2 : decode cX8_reign 2 = .ok (.iconst 4, 1) := by decide +kernel
theorem dX8_reign_3 : decode cX8_reign 3 = .ok (.invokestatic 88, 3) := by decide +kernel
theorem dX8_reign_6 : decode cX8_reign 6 = .ok (.ifCond .eq 51, 3) := by decide +kernel
theorem dX8_reign_9 : decode cX8_reign 9 = .ok (.iload_n 2, 1) := by decide +kernel
theorem dX8_reign_10 : decode cX8_reign 10 = .ok (.iconst 0, 1) := by decide +kernel
theorem dX8_reign_11 : decode cX8_reign 11 = .ok (.bipush 6, 2) := by decide +kernel
theorem dX8_reign_13 : decode cX8_reign 13 = .ok (.invokestatic 88, 3) := by decide +kernel
theorem dX8_reign_16 : decode cX8_reign 16 = .ok (.ifCond .eq 41, 3) := by decide +kernel
theorem dX8_reign_19 : decode cX8_reign 19 = .ok (.iload_n 3, 1) := by decide +kernel
theorem dX8_reign_20 : decode cX8_reign 20 = .ok (.iconst 1, 1) := by decide +kernel
theorem dX8_reign_21 : decode cX8_reign 21 = .ok (.bipush 60, 2) := by decide +kernel
theorem dX8_reign_23 : decode cX8_reign 23 = .ok (.invokestatic 88, 3) := by decide +kernel
theorem dX8_reign_26 : decode cX8_reign 26 = .ok (.ifCond .eq 31, 3) := by decide +kernel
theorem dX8_reign_29 : decode cX8_reign 29 = .ok (.iload 4, 2) := by decide +kernel
theorem dX8_reign_31 : decode cX8_reign 31 = .ok (.iconst 0, 1) := by decide +kernel
theorem dX8_reign_32 : decode cX8_reign 32 = .ok (.iload_n 2, 1) := by decide +kernel
theorem dX8_reign_33 : decode cX8_reign 33 = .ok (.iconst 1, 1) := by decide +kernel
theorem dX8_reign_34 : decode cX8_reign 34 = .ok (.if_icmp .ne 7, 3) := by decide +kernel
theorem dX8_reign_37 : decode cX8_reign 37 = .ok (.iload_n 3, 1) := by decide +kernel
theorem dX8_reign_38 : decode cX8_reign 38 = .ok (.goto 5, 3) := by decide +kernel
theorem dX8_reign_41 : decode cX8_reign 41 = .ok (.bipush 60, 2) := by decide +kernel
theorem dX8_reign_43 : decode cX8_reign 43 = .ok (.invokestatic 88, 3) := by decide +kernel
theorem dX8_reign_46 : decode cX8_reign 46 = .ok (.ifCond .eq 11, 3) := by decide +kernel
theorem dX8_reign_49 : decode cX8_reign 49 = .ok (.iload 5, 2) := by decide +kernel
theorem dX8_reign_51 : decode cX8_reign 51 = .ok (.invokestatic 92, 3) := by decide +kernel
theorem dX8_reign_54 : decode cX8_reign 54 = .ok (.ifCond .ne 6, 3) := by decide +kernel
theorem dX8_reign_57 : decode cX8_reign 57 = .ok (.bipush (-102), 2) := by decide +kernel
theorem dX8_reign_59 : decode cX8_reign 59 = .ok (.ireturn, 1) := by decide +kernel
theorem dX8_reign_60 : decode cX8_reign 60 = .ok (.aload_n 0, 1) := by decide +kernel
theorem dX8_reign_61 : decode cX8_reign 61 = .ok (.iload_n 1, 1) := by decide +kernel
theorem dX8_reign_62 : decode cX8_reign 62 = .ok (.invokevirtual 96, 3) := by decide +kernel
theorem dX8_reign_65 : decode cX8_reign 65 = .ok (.istore 6, 2) := by decide +kernel
theorem dX8_reign_67 : decode cX8_reign 67 = .ok (.iload 6, 2) := by decide +kernel
theorem dX8_reign_69 : decode cX8_reign 69 = .ok (.iconst (-1), 1) := by decide +kernel
theorem dX8_reign_70 : decode cX8_reign 70 = .ok (.if_icmp .eq 18, 3) := by decide +kernel
theorem dX8_reign_73 : decode cX8_reign 73 = .ok (.iload 5, 2) := by decide +kernel
theorem dX8_reign_75 : decode cX8_reign 75 = .ok (.aload_n 0, 1) := by decide +kernel
theorem dX8_reign_76 : decode cX8_reign 76 = .ok (.getfield 22, 3) := by decide +kernel
theorem dX8_reign_79 : decode cX8_reign 79 = .ok (.iload 6, 2) := by decide +kernel
theorem dX8_reign_81 : decode cX8_reign 81 = .ok (.iaload, 1) := by decide +kernel
theorem dX8_reign_82 : decode cX8_reign 82 = .ok (.if_icmp .ge 6, 3) := by decide +kernel
theorem dX8_reign_85 : decode cX8_reign 85 = .ok (.bipush (-102), 2) := by decide +kernel
theorem dX8_reign_87 : decode cX8_reign 87 = .ok (.ireturn, 1) := by decide +kernel
theorem dX8_reign_88 : decode cX8_reign 88 = .ok (.iload_n 2, 1) := by decide +kernel
theorem dX8_reign_89 : decode cX8_reign 89 = .ok (.iconst 1, 1) := by decide +kernel
theorem dX8_reign_90 : decode cX8_reign 90 = .ok (.if_icmp .ne 12, 3) := by decide +kernel
theorem dX8_reign_93 : decode cX8_reign 93 = .ok (.iload 6, 2) := by decide +kernel
theorem dX8_reign_95 : decode cX8_reign 95 = .ok (.iconst (-1), 1) := by decide +kernel
theorem dX8_reign_96 : decode cX8_reign 96 = .ok (.if_icmp .ne 6, 3) := by decide +kernel
theorem dX8_reign_99 : decode cX8_reign 99 = .ok (.bipush (-103), 2) := by decide +kernel
theorem dX8_reign_101 : decode cX8_reign 101 = .ok (.ireturn, 1) := by decide +kernel
theorem dX8_reign_102 : decode cX8_reign 102 = .ok (.iconst 0, 1) := by decide +kernel
theorem dX8_reign_103 : decode cX8_reign 103 = .ok (.istore 7, 2) := by decide +kernel
theorem dX8_reign_105 : decode cX8_reign 105 = .ok (.iconst 0, 1) := by decide +kernel
theorem dX8_reign_106 : decode cX8_reign 106 = .ok (.istore 8, 2) := by decide +kernel
theorem dX8_reign_108 : decode cX8_reign 108 = .ok (.iload 8, 2) := by decide +kernel
theorem dX8_reign_110 : decode cX8_reign 110 = .ok (.aload_n 0, 1) := by decide +kernel
theorem dX8_reign_111 : decode cX8_reign 111 = .ok (.getfield 84, 3) := by decide +kernel
theorem dX8_reign_114 : decode cX8_reign 114 = .ok (.if_icmp .ge 32, 3) := by decide +kernel
theorem dX8_reign_117 : decode cX8_reign 117 = .ok (.iload 7, 2) := by decide +kernel
theorem dX8_reign_119 : decode cX8_reign 119 = .ok (.aload_n 0, 1) := by decide +kernel
theorem dX8_reign_120 : decode cX8_reign 120 = .ok (.getfield 13, 3) := by decide +kernel
theorem dX8_reign_123 : decode cX8_reign 123 = .ok (.iload 8, 2) := by decide +kernel
theorem dX8_reign_125 : decode cX8_reign 125 = .ok (.iaload, 1) := by decide +kernel
theorem dX8_reign_126 : decode cX8_reign 126 = .ok (.invokestatic 100, 3) := by decide +kernel
theorem dX8_reign_129 : decode cX8_reign 129 = .ok (.ifCond .eq 7, 3) := by decide +kernel
theorem dX8_reign_132 : decode cX8_reign 132 = .ok (.iconst 1, 1) := by decide +kernel
theorem dX8_reign_133 : decode cX8_reign 133 = .ok (.goto 4, 3) := by decide +kernel
theorem dX8_reign_136 : decode cX8_reign 136 = .ok (.iconst 0, 1) := by decide +kernel
theorem dX8_reign_137 : decode cX8_reign 137 = .ok (.iadd, 1) := by decide +kernel
theorem dX8_reign_138 : decode cX8_reign 138 = .ok (.istore 7, 2) := by decide +kernel
theorem dX8_reign_140 : decode cX8_reign 140 = .ok (.iinc 8 1, 3) := by decide +kernel
theorem dX8_reign_143 : decode cX8_reign 143 = .ok (.goto (-35), 3) := by decide +kernel
theorem dX8_reign_146 : decode cX8_reign 146 = .ok (.aload_n 0, 1) := by decide +kernel
theorem dX8_reign_147 : decode cX8_reign 147 = .ok (.getfield 84, 3) := by decide +kernel
theorem dX8_reign_150 : decode cX8_reign 150 = .ok (.bipush 10, 2) := by decide +kernel
theorem dX8_reign_152 : decode cX8_reign 152 = .ok (.if_icmp .eq 16, 3) := by decide +kernel
theorem dX8_reign_155 : decode cX8_reign 155 = .ok (.iload_n 2, 1) := by decide +kernel
theorem dX8_reign_156 : decode cX8_reign 156 = .ok (.invokestatic 100, 3) := by decide +kernel
theorem dX8_reign_159 : decode cX8_reign 159 = .ok (.ifCond .eq 12, 3) := by decide +kernel
theorem dX8_reign_162 : decode cX8_reign 162 = .ok (.iload 7, 2) := by decide +kernel
theorem dX8_reign_164 : decode cX8_reign 164 = .ok (.iconst 3, 1) := by decide +kernel
theorem dX8_reign_165 : decode cX8_reign 165 = .ok (.if_icmp .ne 6, 3) := by decide +kernel
theorem dX8_reign_168 : decode cX8_reign 168 = .ok (.bipush (-104), 2) := by decide +kernel
theorem dX8_reign_170 : decode cX8_reign 170 = .ok (.ireturn, 1) := by decide +kernel
theorem dX8_reign_171 : decode cX8_reign 171 = .ok (.aload_n 0, 1) := by decide +kernel
theorem dX8_reign_172 : decode cX8_reign 172 = .ok (.getfield 7, 3) := by decide +kernel
theorem dX8_reign_175 : decode cX8_reign 175 = .ok (.aload_n 0, 1) := by decide +kernel
theorem dX8_reign_176 : decode cX8_reign 176 = .ok (.getfield 84, 3) := by decide +kernel
theorem dX8_reign_179 : decode cX8_reign 179 = .ok (.iload_n 1, 1) := by decide +kernel
theorem dX8_reign_180 : decode cX8_reign 180 = .ok (.iastore, 1) := by decide +kernel
theorem dX8_reign_181 : decode cX8_reign 181 = .ok (.aload_n 0, 1) := by decide +kernel
theorem dX8_reign_182 : decode cX8_reign 182 = .ok (.getfield 13, 3) := by decide +kernel
theorem dX8_reign_185 : decode cX8_reign 185 = .ok (.aload_n 0, 1) := by decide +kernel
theorem dX8_reign_186 : decode cX8_reign 186 = .ok (.getfield 84, 3) := by decide +kernel
theorem dX8_reign_189 : decode cX8_reign 189 = .ok (.iload_n 2, 1) := by decide +kernel
theorem dX8_reign_190 : decode cX8_reign 190 = .ok (.iastore, 1) := by decide +kernel
theorem dX8_reign_191 : decode cX8_reign 191 = .ok (.aload_n 0, 1) := by decide +kernel
theorem dX8_reign_192 : decode cX8_reign 192 = .ok (.getfield 16, 3) := by decide +kernel
theorem dX8_reign_195 : decode cX8_reign 195 = .ok (.aload_n 0, 1) := by decide +kernel
theorem dX8_reign_196 : decode cX8_reign 196 = .ok (.getfield 84, 3) := by decide +kernel
theorem dX8_reign_199 : decode cX8_reign 199 = .ok (.iload_n 3, 1) := by decide +kernel
theorem dX8_reign_200 : decode cX8_reign 200 = .ok (.iastore, 1) := by decide +kernel
theorem dX8_reign_201 : decode cX8_reign 201 = .ok (.aload_n 0, 1) := by decide +kernel
theorem dX8_reign_202 : decode cX8_reign 202 = .ok (.getfield 19, 3) := by decide +kernel
theorem dX8_reign_205 : decode cX8_reign 205 = .ok (.aload_n 0, 1) := by decide +kernel
theorem dX8_reign_206 : decode cX8_reign 206 = .ok (.getfield 84, 3) := by decide +kernel
theorem dX8_reign_209 : decode cX8_reign 209 = .ok (.iload 4, 2) := by decide +kernel
theorem dX8_reign_211 : decode cX8_reign 211 = .ok (.iastore, 1) := by decide +kernel
theorem dX8_reign_212 : decode cX8_reign 212 = .ok (.aload_n 0, 1) := by decide +kernel
theorem dX8_reign_213 : decode cX8_reign 213 = .ok (.getfield 22, 3) := by decide +kernel
theorem dX8_reign_216 : decode cX8_reign 216 = .ok (.aload_n 0, 1) := by decide +kernel
theorem dX8_reign_217 : decode cX8_reign 217 = .ok (.getfield 84, 3) := by decide +kernel
theorem dX8_reign_220 : decode cX8_reign 220 = .ok (.iload 5, 2) := by decide +kernel
theorem dX8_reign_222 : decode cX8_reign 222 = .ok (.iastore, 1) := by decide +kernel
theorem dX8_reign_223 : decode cX8_reign 223 = .ok (.aload_n 0, 1) := by decide +kernel
theorem dX8_reign_224 : decode cX8_reign 224 = .ok (.getfield 25, 3) := by decide +kernel
theorem dX8_reign_227 : decode cX8_reign 227 = .ok (.aload_n 0, 1) := by decide +kernel
theorem dX8_reign_228 : decode cX8_reign 228 = .ok (.getfield 84, 3) := by decide +kernel
theorem dX8_reign_231 : decode cX8_reign 231 = .ok (.iload 6, 2) := by decide +kernel
theorem dX8_reign_233 : decode cX8_reign 233 = .ok (.iastore, 1) := by decide +kernel
theorem dX8_reign_234 : decode cX8_reign 234 = .ok (.aload_n 0, 1) := by decide +kernel
theorem dX8_reign_235 : decode cX8_reign 235 = .ok (.dup, 1) := by decide +kernel
theorem dX8_reign_236 : decode cX8_reign 236 = .ok (.getfield 84, 3) := by decide +kernel
theorem dX8_reign_239 : decode cX8_reign 239 = .ok (.iconst 1, 1) := by decide +kernel
theorem dX8_reign_240 : decode cX8_reign 240 = .ok (.iadd, 1) := by decide +kernel
theorem dX8_reign_241 : decode cX8_reign 241 = .ok (.putfield 84, 3) := by decide +kernel
theorem dX8_reign_244 : decode cX8_reign 244 = .ok (.aload_n 0, 1) := by decide +kernel
theorem dX8_reign_245 : decode cX8_reign 245 = .ok (.getfield 84, 3) := by decide +kernel
theorem dX8_reign_248 : decode cX8_reign 248 = .ok (.iconst 1, 1) := by decide +kernel
theorem dX8_reign_249 : decode cX8_reign 249 = .ok (.isub, 1) := by decide +kernel
theorem dX8_reign_250 : decode cX8_reign 250 = .ok (.ireturn, 1) := by decide +kernel
theorem dX8_ring_0 : decode cX8_ring 0 = .ok (.aload_n 0, 1) := by decide +kernel
theorem dX8_ring_1 : decode cX8_ring 1 = .ok (.iload_n 1, 1) := by decide +kernel
theorem dX8_ring_2 : decode cX8_ring 2 = .ok (.invokevirtual 103, 3) := by decide +kernel
theorem dX8_ring_5 : decode cX8_ring 5 = .ok (.ifCond .ne 6, 3) := by decide +kernel
theorem dX8_ring_8 : decode cX8_ring 8 = .ok (.bipush (-101), 2) := by decide +kernel
theorem dX8_ring_10 : decode cX8_ring 10 = .ok (.ireturn, 1) := by decide +kernel
theorem dX8_ring_11 : decode cX8_ring 11 = .ok (.iload_n 2, 1) := by decide +kernel
theorem dX8_ring_12 : decode cX8_ring 12 = .ok (.invokestatic 125, 3) := by decide +kernel
theorem dX8_ring_15 : decode cX8_ring 15 = .ok (.ifCond .eq 18, 3) := by decide +kernel
theorem dX8_ring_18 : decode cX8_ring 18 = .ok (.iload_n 3, 1) := by decide +kernel
theorem dX8_ring_19 : decode cX8_ring 19 = .ok (.invokestatic 132, 3) := by decide +kernel
theorem dX8_ring_22 : decode cX8_ring 22 = .ok (.ifCond .eq 11, 3) := by decide +kernel
theorem dX8_ring_25 : decode cX8_ring 25 = .ok (.iload 4, 2) := by decide +kernel
theorem dX8_ring_27 : decode cX8_ring 27 = .ok (.invokestatic 92, 3) := by decide +kernel
theorem dX8_ring_30 : decode cX8_ring 30 = .ok (.ifCond .ne 6, 3) := by decide +kernel
theorem dX8_ring_33 : decode cX8_ring 33 = .ok (.bipush (-102), 2) := by decide +kernel
theorem dX8_ring_35 : decode cX8_ring 35 = .ok (.ireturn, 1) := by decide +kernel
theorem dX8_ring_36 : decode cX8_ring 36 = .ok (.aload_n 0, 1) := by decide +kernel
theorem dX8_ring_37 : decode cX8_ring 37 = .ok (.iconst 2, 1) := by decide +kernel
theorem dX8_ring_38 : decode cX8_ring 38 = .ok (.iload_n 1, 1) := by decide +kernel
theorem dX8_ring_39 : decode cX8_ring 39 = .ok (.iload_n 2, 1) := by decide +kernel
theorem dX8_ring_40 : decode cX8_ring 40 = .ok (.iconst (-1), 1) := by decide +kernel
theorem dX8_ring_41 : decode cX8_ring 41 = .ok (.iconst (-1), 1) := by decide +kernel
theorem dX8_ring_42 : decode cX8_ring 42 = .ok (.iconst (-1), 1) := by decide +kernel
theorem dX8_ring_43 : decode cX8_ring 43 = .ok (.iload 4, 2) := by decide +kernel
theorem dX8_ring_45 : decode cX8_ring 45 = .ok (.invokevirtual 128, 3) := by decide +kernel
theorem dX8_ring_48 : decode cX8_ring 48 = .ok (.istore 5, 2) := by decide +kernel
theorem dX8_ring_50 : decode cX8_ring 50 = .ok (.iload 5, 2) := by decide +kernel
theorem dX8_ring_52 : decode cX8_ring 52 = .ok (.bipush (-104), 2) := by decide +kernel
theorem dX8_ring_54 : decode cX8_ring 54 = .ok (.if_icmp .eq 13, 3) := by decide +kernel
theorem dX8_ring_57 : decode cX8_ring 57 = .ok (.aload_n 0, 1) := by decide +kernel
theorem dX8_ring_58 : decode cX8_ring 58 = .ok (.getfield 34, 3) := by decide +kernel
theorem dX8_ring_61 : decode cX8_ring 61 = .ok (.iconst 3, 1) := by decide +kernel
theorem dX8_ring_62 : decode cX8_ring 62 = .ok (.iload 5, 2) := by decide +kernel
theorem dX8_ring_64 : decode cX8_ring 64 = .ok (.imul, 1) := by decide +kernel
theorem dX8_ring_65 : decode cX8_ring 65 = .ok (.iload_n 3, 1) := by decide +kernel
theorem dX8_ring_66 : decode cX8_ring 66 = .ok (.iastore, 1) := by decide +kernel
theorem dX8_ring_67 : decode cX8_ring 67 = .ok (.iload 5, 2) := by decide +kernel
theorem dX8_ring_69 : decode cX8_ring 69 = .ok (.ireturn, 1) := by decide +kernel
theorem dX8_saysOf_0 : decode cX8_saysOf 0 = .ok (.aload_n 0, 1) := by decide +kernel
theorem dX8_saysOf_1 : decode cX8_saysOf 1 = .ok (.getfield 41, 3) := by decide +kernel
theorem dX8_saysOf_4 : decode cX8_saysOf 4 = .ok (.iload_n 1, 1) := by decide +kernel
theorem dX8_saysOf_5 : decode cX8_saysOf 5 = .ok (.iaload, 1) := by decide +kernel
theorem dX8_saysOf_6 : decode cX8_saysOf 6 = .ok (.iconst 1, 1) := by decide +kernel
theorem dX8_saysOf_7 : decode cX8_saysOf 7 = .ok (.isub, 1) := by decide +kernel
theorem dX8_saysOf_8 : decode cX8_saysOf 8 = .ok (.istore 4, 2) := by decide +kernel
theorem dX8_saysOf_10 : decode cX8_saysOf 10 = .ok (.iload 4, 2) := by decide +kernel
theorem dX8_saysOf_12 : decode cX8_saysOf 12 = .ok (.ifCond .lt 57, 3) := by decide +kernel
theorem dX8_saysOf_15 : decode cX8_saysOf 15 = .ok (.bipush 6, 2) := by decide +kernel
theorem dX8_saysOf_17 : decode cX8_saysOf 17 = .ok (.iload_n 1, 1) := by decide +kernel
theorem dX8_saysOf_18 : decode cX8_saysOf 18 = .ok (.imul, 1) := by decide +kernel
theorem dX8_saysOf_19 : decode cX8_saysOf 19 = .ok (.iload 4, 2) := by decide +kernel
theorem dX8_saysOf_21 : decode cX8_saysOf 21 = .ok (.iadd, 1) := by decide +kernel
theorem dX8_saysOf_22 : decode cX8_saysOf 22 = .ok (.istore 5, 2) := by decide +kernel
theorem dX8_saysOf_24 : decode cX8_saysOf 24 = .ok (.aload_n 0, 1) := by decide +kernel
theorem dX8_saysOf_25 : decode cX8_saysOf 25 = .ok (.getfield 44, 3) := by decide +kernel
theorem dX8_saysOf_28 : decode cX8_saysOf 28 = .ok (.bipush 60, 2) := by decide +kernel
theorem dX8_saysOf_30 : decode cX8_saysOf 30 = .ok (.iload 5, 2) := by decide +kernel
theorem dX8_saysOf_32 : decode cX8_saysOf 32 = .ok (.imul, 1) := by decide +kernel
theorem dX8_saysOf_33 : decode cX8_saysOf 33 = .ok (.baload, 1) := by decide +kernel
theorem dX8_saysOf_34 : decode cX8_saysOf 34 = .ok (.iload_n 2, 1) := by decide +kernel
theorem dX8_saysOf_35 : decode cX8_saysOf 35 = .ok (.if_icmp .ne 28, 3) := by decide +kernel
theorem dX8_saysOf_38 : decode cX8_saysOf 38 = .ok (.aload_n 0, 1) := by decide +kernel
theorem dX8_saysOf_39 : decode cX8_saysOf 39 = .ok (.iload 5, 2) := by decide +kernel
theorem dX8_saysOf_41 : decode cX8_saysOf 41 = .ok (.invokevirtual 176, 3) := by decide +kernel
theorem dX8_saysOf_44 : decode cX8_saysOf 44 = .ok (.ifCond .eq 19, 3) := by decide +kernel
theorem dX8_saysOf_47 : decode cX8_saysOf 47 = .ok (.aload_n 0, 1) := by decide +kernel
theorem dX8_saysOf_48 : decode cX8_saysOf 48 = .ok (.getfield 44, 3) := by decide +kernel
theorem dX8_saysOf_51 : decode cX8_saysOf 51 = .ok (.bipush 60, 2) := by decide +kernel
theorem dX8_saysOf_53 : decode cX8_saysOf 53 = .ok (.iload 5, 2) := by decide +kernel
theorem dX8_saysOf_55 : decode cX8_saysOf 55 = .ok (.imul, 1) := by decide +kernel
theorem dX8_saysOf_56 : decode cX8_saysOf 56 = .ok (.iconst 2, 1) := by decide +kernel
theorem dX8_saysOf_57 : decode cX8_saysOf 57 = .ok (.iadd, 1) := by decide +kernel
theorem dX8_saysOf_58 : decode cX8_saysOf 58 = .ok (.baload, 1) := by decide +kernel
theorem dX8_saysOf_59 : decode cX8_saysOf 59 = .ok (.bipush 48, 2) := by decide +kernel
theorem dX8_saysOf_61 : decode cX8_saysOf 61 = .ok (.isub, 1) := by decide +kernel
theorem dX8_saysOf_62 : decode cX8_saysOf 62 = .ok (.ireturn, 1) := by decide +kernel
theorem dX8_saysOf_63 : decode cX8_saysOf 63 = .ok (.iinc 4 (-1), 3) := by decide +kernel
theorem dX8_saysOf_66 : decode cX8_saysOf 66 = .ok (.goto (-56), 3) := by decide +kernel
theorem dX8_saysOf_69 : decode cX8_saysOf 69 = .ok (.iload_n 3, 1) := by decide +kernel
theorem dX8_saysOf_70 : decode cX8_saysOf 70 = .ok (.ireturn, 1) := by decide +kernel
theorem dX8_sky_0 : decode cX8_sky 0 = .ok (.aload_n 0, 1) := by decide +kernel
theorem dX8_sky_1 : decode cX8_sky 1 = .ok (.iload_n 1, 1) := by decide +kernel
theorem dX8_sky_2 : decode cX8_sky 2 = .ok (.invokevirtual 103, 3) := by decide +kernel
theorem dX8_sky_5 : decode cX8_sky 5 = .ok (.ifCond .ne 6, 3) := by decide +kernel
theorem dX8_sky_8 : decode cX8_sky 8 = .ok (.bipush (-101), 2) := by decide +kernel
theorem dX8_sky_10 : decode cX8_sky 10 = .ok (.ireturn, 1) := by decide +kernel
theorem dX8_sky_11 : decode cX8_sky 11 = .ok (.iload_n 2, 1) := by decide +kernel
theorem dX8_sky_12 : decode cX8_sky 12 = .ok (.invokestatic 125, 3) := by decide +kernel
theorem dX8_sky_15 : decode cX8_sky 15 = .ok (.ifCond .eq 34, 3) := by decide +kernel
theorem dX8_sky_18 : decode cX8_sky 18 = .ok (.iload_n 3, 1) := by decide +kernel
theorem dX8_sky_19 : decode cX8_sky 19 = .ok (.invokestatic 132, 3) := by decide +kernel
theorem dX8_sky_22 : decode cX8_sky 22 = .ok (.ifCond .eq 27, 3) := by decide +kernel
theorem dX8_sky_25 : decode cX8_sky 25 = .ok (.iload 4, 2) := by decide +kernel
theorem dX8_sky_27 : decode cX8_sky 27 = .ok (.invokestatic 132, 3) := by decide +kernel
theorem dX8_sky_30 : decode cX8_sky 30 = .ok (.ifCond .eq 19, 3) := by decide +kernel
theorem dX8_sky_33 : decode cX8_sky 33 = .ok (.iload 5, 2) := by decide +kernel
theorem dX8_sky_35 : decode cX8_sky 35 = .ok (.invokestatic 132, 3) := by decide +kernel
theorem dX8_sky_38 : decode cX8_sky 38 = .ok (.ifCond .eq 11, 3) := by decide +kernel
theorem dX8_sky_41 : decode cX8_sky 41 = .ok (.iload 6, 2) := by decide +kernel
theorem dX8_sky_43 : decode cX8_sky 43 = .ok (.invokestatic 92, 3) := by decide +kernel
theorem dX8_sky_46 : decode cX8_sky 46 = .ok (.ifCond .ne 6, 3) := by decide +kernel
theorem dX8_sky_49 : decode cX8_sky 49 = .ok (.bipush (-102), 2) := by decide +kernel
theorem dX8_sky_51 : decode cX8_sky 51 = .ok (.ireturn, 1) := by decide +kernel
theorem dX8_sky_52 : decode cX8_sky 52 = .ok (.iconst 0, 1) := by decide +kernel
theorem dX8_sky_53 : decode cX8_sky 53 = .ok (.istore 7, 2) := by decide +kernel
theorem dX8_sky_55 : decode cX8_sky 55 = .ok (.iconst 0, 1) := by decide +kernel
theorem dX8_sky_56 : decode cX8_sky 56 = .ok (.istore 8, 2) := by decide +kernel
theorem dX8_sky_58 : decode cX8_sky 58 = .ok (.iload 8, 2) := by decide +kernel
theorem dX8_sky_60 : decode cX8_sky 60 = .ok (.aload_n 0, 1) := by decide +kernel
theorem dX8_sky_61 : decode cX8_sky 61 = .ok (.getfield 122, 3) := by decide +kernel
theorem dX8_sky_64 : decode cX8_sky 64 = .ok (.if_icmp .ge 33, 3) := by decide +kernel
theorem dX8_sky_67 : decode cX8_sky 67 = .ok (.iload 7, 2) := by decide +kernel
theorem dX8_sky_69 : decode cX8_sky 69 = .ok (.aload_n 0, 1) := by decide +kernel
theorem dX8_sky_70 : decode cX8_sky 70 = .ok (.getfield 31, 3) := by decide +kernel
theorem dX8_sky_73 : decode cX8_sky 73 = .ok (.bipush 7, 2) := by decide +kernel
theorem dX8_sky_75 : decode cX8_sky 75 = .ok (.iload 8, 2) := by decide +kernel
theorem dX8_sky_77 : decode cX8_sky 77 = .ok (.imul, 1) := by decide +kernel
theorem dX8_sky_78 : decode cX8_sky 78 = .ok (.iaload, 1) := by decide +kernel
theorem dX8_sky_79 : decode cX8_sky 79 = .ok (.iconst 1, 1) := by decide +kernel
theorem dX8_sky_80 : decode cX8_sky 80 = .ok (.if_icmp .ne 7, 3) := by decide +kernel
theorem dX8_sky_83 : decode cX8_sky 83 = .ok (.iconst 1, 1) := by decide +kernel
theorem dX8_sky_84 : decode cX8_sky 84 = .ok (.goto 4, 3) := by decide +kernel
theorem dX8_sky_87 : decode cX8_sky 87 = .ok (.iconst 0, 1) := by decide +kernel
theorem dX8_sky_88 : decode cX8_sky 88 = .ok (.iadd, 1) := by decide +kernel
theorem dX8_sky_89 : decode cX8_sky 89 = .ok (.istore 7, 2) := by decide +kernel
theorem dX8_sky_91 : decode cX8_sky 91 = .ok (.iinc 8 1, 3) := by decide +kernel
theorem dX8_sky_94 : decode cX8_sky 94 = .ok (.goto (-36), 3) := by decide +kernel
theorem dX8_sky_97 : decode cX8_sky 97 = .ok (.iload 7, 2) := by decide +kernel
theorem dX8_sky_99 : decode cX8_sky 99 = .ok (.iconst 2, 1) := by decide +kernel
theorem dX8_sky_100 : decode cX8_sky 100 = .ok (.if_icmp .ne 6, 3) := by decide +kernel
theorem dX8_sky_103 : decode cX8_sky 103 = .ok (.bipush (-104), 2) := by decide +kernel
theorem dX8_sky_105 : decode cX8_sky 105 = .ok (.ireturn, 1) := by decide +kernel
theorem dX8_sky_106 : decode cX8_sky 106 = .ok (.aload_n 0, 1) := by decide +kernel
theorem dX8_sky_107 : decode cX8_sky 107 = .ok (.iconst 1, 1) := by decide +kernel
theorem dX8_sky_108 : decode cX8_sky 108 = .ok (.iload_n 1, 1) := by decide +kernel
theorem dX8_sky_109 : decode cX8_sky 109 = .ok (.iload_n 2, 1) := by decide +kernel
theorem dX8_sky_110 : decode cX8_sky 110 = .ok (.iconst (-1), 1) := by decide +kernel
theorem dX8_sky_111 : decode cX8_sky 111 = .ok (.iconst (-1), 1) := by decide +kernel
theorem dX8_sky_112 : decode cX8_sky 112 = .ok (.iconst (-1), 1) := by decide +kernel
theorem dX8_sky_113 : decode cX8_sky 113 = .ok (.iload 6, 2) := by decide +kernel
theorem dX8_sky_115 : decode cX8_sky 115 = .ok (.invokevirtual 128, 3) := by decide +kernel
theorem dX8_sky_118 : decode cX8_sky 118 = .ok (.istore 8, 2) := by decide +kernel
theorem dX8_sky_120 : decode cX8_sky 120 = .ok (.iload 8, 2) := by decide +kernel
theorem dX8_sky_122 : decode cX8_sky 122 = .ok (.bipush (-104), 2) := by decide +kernel
theorem dX8_sky_124 : decode cX8_sky 124 = .ok (.if_icmp .eq 39, 3) := by decide +kernel
theorem dX8_sky_127 : decode cX8_sky 127 = .ok (.aload_n 0, 1) := by decide +kernel
theorem dX8_sky_128 : decode cX8_sky 128 = .ok (.getfield 34, 3) := by decide +kernel
theorem dX8_sky_131 : decode cX8_sky 131 = .ok (.iconst 3, 1) := by decide +kernel
theorem dX8_sky_132 : decode cX8_sky 132 = .ok (.iload 8, 2) := by decide +kernel
theorem dX8_sky_134 : decode cX8_sky 134 = .ok (.imul, 1) := by decide +kernel
theorem dX8_sky_135 : decode cX8_sky 135 = .ok (.iload_n 3, 1) := by decide +kernel
theorem dX8_sky_136 : decode cX8_sky 136 = .ok (.iastore, 1) := by decide +kernel
theorem dX8_sky_137 : decode cX8_sky 137 = .ok (.aload_n 0, 1) := by decide +kernel
theorem dX8_sky_138 : decode cX8_sky 138 = .ok (.getfield 34, 3) := by decide +kernel
theorem dX8_sky_141 : decode cX8_sky 141 = .ok (.iconst 3, 1) := by decide +kernel
theorem dX8_sky_142 : decode cX8_sky 142 = .ok (.iload 8, 2) := by decide +kernel
theorem dX8_sky_144 : decode cX8_sky 144 = .ok (.imul, 1) := by decide +kernel
theorem dX8_sky_145 : decode cX8_sky 145 = .ok (.iconst 1, 1) := by decide +kernel
theorem dX8_sky_146 : decode cX8_sky 146 = .ok (.iadd, 1) := by decide +kernel
theorem dX8_sky_147 : decode cX8_sky 147 = .ok (.iload 4, 2) := by decide +kernel
theorem dX8_sky_149 : decode cX8_sky 149 = .ok (.iastore, 1) := by decide +kernel
theorem dX8_sky_150 : decode cX8_sky 150 = .ok (.aload_n 0, 1) := by decide +kernel
theorem dX8_sky_151 : decode cX8_sky 151 = .ok (.getfield 34, 3) := by decide +kernel
theorem dX8_sky_154 : decode cX8_sky 154 = .ok (.iconst 3, 1) := by decide +kernel
theorem dX8_sky_155 : decode cX8_sky 155 = .ok (.iload 8, 2) := by decide +kernel
theorem dX8_sky_157 : decode cX8_sky 157 = .ok (.imul, 1) := by decide +kernel
theorem dX8_sky_158 : decode cX8_sky 158 = .ok (.iconst 2, 1) := by decide +kernel
theorem dX8_sky_159 : decode cX8_sky 159 = .ok (.iadd, 1) := by decide +kernel
theorem dX8_sky_160 : decode cX8_sky 160 = .ok (.iload 5, 2) := by decide +kernel
theorem dX8_sky_162 : decode cX8_sky 162 = .ok (.iastore, 1) := by decide +kernel
theorem dX8_sky_163 : decode cX8_sky 163 = .ok (.iload 8, 2) := by decide +kernel
theorem dX8_sky_165 : decode cX8_sky 165 = .ok (.ireturn, 1) := by decide +kernel
theorem dX8_solve_0 : decode cX8_solve 0 = .ok (.aload_n 0, 1) := by decide +kernel
theorem dX8_solve_1 : decode cX8_solve 1 = .ok (.iconst 0, 1) := by decide +kernel
theorem dX8_solve_2 : decode cX8_solve 2 = .ok (.putfield 201, 3) := by decide +kernel
theorem dX8_solve_5 : decode cX8_solve 5 = .ok (.iconst 0, 1) := by decide +kernel
theorem dX8_solve_6 : decode cX8_solve 6 = .ok (.istore 5, 2) := by decide +kernel
theorem dX8_solve_8 : decode cX8_solve 8 = .ok (.iload 5, 2) := by decide +kernel
theorem dX8_solve_10 : decode cX8_solve 10 = .ok (.aload_n 0, 1) := by decide +kernel
theorem dX8_solve_11 : decode cX8_solve 11 = .ok (.getfield 84, 3) := by decide +kernel
theorem dX8_solve_14 : decode cX8_solve 14 = .ok (.if_icmp .ge 43, 3) := by decide +kernel
theorem dX8_solve_17 : decode cX8_solve 17 = .ok (.aload_n 0, 1) := by decide +kernel
theorem dX8_solve_18 : decode cX8_solve 18 = .ok (.getfield 69, 3) := by decide +kernel
theorem dX8_solve_21 : decode cX8_solve 21 = .ok (.iload 5, 2) := by decide +kernel
theorem dX8_solve_23 : decode cX8_solve 23 = .ok (.aload_n 0, 1) := by decide +kernel
theorem dX8_solve_24 : decode cX8_solve 24 = .ok (.iload_n 1, 1) := by decide +kernel
theorem dX8_solve_25 : decode cX8_solve 25 = .ok (.iload 5, 2) := by decide +kernel
theorem dX8_solve_27 : decode cX8_solve 27 = .ok (.invokevirtual 182, 3) := by decide +kernel
theorem dX8_solve_30 : decode cX8_solve 30 = .ok (.iastore, 1) := by decide +kernel
theorem dX8_solve_31 : decode cX8_solve 31 = .ok (.aload_n 0, 1) := by decide +kernel
theorem dX8_solve_32 : decode cX8_solve 32 = .ok (.getfield 72, 3) := by decide +kernel
theorem dX8_solve_35 : decode cX8_solve 35 = .ok (.iload 5, 2) := by decide +kernel
theorem dX8_solve_37 : decode cX8_solve 37 = .ok (.sipush (-9999), 3) := by decide +kernel
theorem dX8_solve_40 : decode cX8_solve 40 = .ok (.iastore, 1) := by decide +kernel
theorem dX8_solve_41 : decode cX8_solve 41 = .ok (.aload_n 0, 1) := by decide +kernel
theorem dX8_solve_42 : decode cX8_solve 42 = .ok (.getfield 75, 3) := by decide +kernel
theorem dX8_solve_45 : decode cX8_solve 45 = .ok (.iload 5, 2) := by decide +kernel
theorem dX8_solve_47 : decode cX8_solve 47 = .ok (.sipush (-9999), 3) := by decide +kernel
theorem dX8_solve_50 : decode cX8_solve 50 = .ok (.iastore, 1) := by decide +kernel
theorem dX8_solve_51 : decode cX8_solve 51 = .ok (.iinc 5 1, 3) := by decide +kernel
theorem dX8_solve_54 : decode cX8_solve 54 = .ok (.goto (-46), 3) := by decide +kernel
theorem dX8_solve_57 : decode cX8_solve 57 = .ok (.iconst 0, 1) := by decide +kernel
theorem dX8_solve_58 : decode cX8_solve 58 = .ok (.istore 5, 2) := by decide +kernel
theorem dX8_solve_60 : decode cX8_solve 60 = .ok (.iload 5, 2) := by decide +kernel
theorem dX8_solve_62 : decode cX8_solve 62 = .ok (.bipush 72, 2) := by decide +kernel
theorem dX8_solve_64 : decode cX8_solve 64 = .ok (.if_icmp .ge 159, 3) := by decide +kernel
theorem dX8_solve_67 : decode cX8_solve 67 = .ok (.aload_n 0, 1) := by decide +kernel
theorem dX8_solve_68 : decode cX8_solve 68 = .ok (.iload_n 2, 1) := by decide +kernel
theorem dX8_solve_69 : decode cX8_solve 69 = .ok (.iload 5, 2) := by decide +kernel
theorem dX8_solve_71 : decode cX8_solve 71 = .ok (.invokevirtual 204, 3) := by decide +kernel
theorem dX8_solve_74 : decode cX8_solve 74 = .ok (.istore 6, 2) := by decide +kernel
theorem dX8_solve_76 : decode cX8_solve 76 = .ok (.iconst 0, 1) := by decide +kernel
theorem dX8_solve_77 : decode cX8_solve 77 = .ok (.istore 7, 2) := by decide +kernel
theorem dX8_solve_79 : decode cX8_solve 79 = .ok (.iload 7, 2) := by decide +kernel
theorem dX8_solve_81 : decode cX8_solve 81 = .ok (.aload_n 0, 1) := by decide +kernel
theorem dX8_solve_82 : decode cX8_solve 82 = .ok (.getfield 122, 3) := by decide +kernel
theorem dX8_solve_85 : decode cX8_solve 85 = .ok (.if_icmp .ge 32, 3) := by decide +kernel
theorem dX8_solve_88 : decode cX8_solve 88 = .ok (.iload 6, 2) := by decide +kernel
theorem dX8_solve_90 : decode cX8_solve 90 = .ok (.ifCond .eq 27, 3) := by decide +kernel
theorem dX8_solve_93 : decode cX8_solve 93 = .ok (.iload_n 3, 1) := by decide +kernel
theorem dX8_solve_94 : decode cX8_solve 94 = .ok (.iload 7, 2) := by decide +kernel
theorem dX8_solve_96 : decode cX8_solve 96 = .ok (.ishr, 1) := by decide +kernel
theorem dX8_solve_97 : decode cX8_solve 97 = .ok (.iconst 1, 1) := by decide +kernel
theorem dX8_solve_98 : decode cX8_solve 98 = .ok (.iand, 1) := by decide +kernel
theorem dX8_solve_99 : decode cX8_solve 99 = .ok (.iconst 1, 1) := by decide +kernel
theorem dX8_solve_100 : decode cX8_solve 100 = .ok (.if_icmp .ne 11, 3) := by decide +kernel
theorem dX8_solve_103 : decode cX8_solve 103 = .ok (.aload_n 0, 1) := by decide +kernel
theorem dX8_solve_104 : decode cX8_solve 104 = .ok (.iload 7, 2) := by decide +kernel
theorem dX8_solve_106 : decode cX8_solve 106 = .ok (.iload 5, 2) := by decide +kernel
theorem dX8_solve_108 : decode cX8_solve 108 = .ok (.invokevirtual 207, 3) := by decide +kernel
theorem dX8_solve_111 : decode cX8_solve 111 = .ok (.iinc 7 1, 3) := by decide +kernel
theorem dX8_solve_114 : decode cX8_solve 114 = .ok (.goto (-35), 3) := by decide +kernel
theorem dX8_solve_117 : decode cX8_solve 117 = .ok (.iload 6, 2) := by decide +kernel
theorem dX8_solve_119 : decode cX8_solve 119 = .ok (.ifCond .eq 81, 3) := by decide +kernel
theorem dX8_solve_122 : decode cX8_solve 122 = .ok (.iload 4, 2) := by decide +kernel
theorem dX8_solve_124 : decode cX8_solve 124 = .ok (.iconst (-1), 1) := by decide +kernel
theorem dX8_solve_125 : decode cX8_solve 125 = .ok (.if_icmp .eq 75, 3) := by decide +kernel
theorem dX8_solve_128 : decode cX8_solve 128 = .ok (.aload_n 0, 1) := by decide +kernel
theorem dX8_solve_129 : decode cX8_solve 129 = .ok (.getfield 50, 3) := by decide +kernel
theorem dX8_solve_132 : decode cX8_solve 132 = .ok (.iconst 5, 1) := by decide +kernel
theorem dX8_solve_133 : decode cX8_solve 133 = .ok (.iload 4, 2) := by decide +kernel
theorem dX8_solve_135 : decode cX8_solve 135 = .ok (.imul, 1) := by decide +kernel
theorem dX8_solve_136 : decode cX8_solve 136 = .ok (.iconst 4, 1) := by decide +kernel
theorem dX8_solve_137 : decode cX8_solve 137 = .ok (.iadd, 1) := by decide +kernel
theorem dX8_solve_138 : decode cX8_solve 138 = .ok (.iaload, 1) := by decide +kernel
theorem dX8_solve_139 : decode cX8_solve 139 = .ok (.istore 7, 2) := by decide +kernel
theorem dX8_solve_141 : decode cX8_solve 141 = .ok (.aload_n 0, 1) := by decide +kernel
theorem dX8_solve_142 : decode cX8_solve 142 = .ok (.getfield 50, 3) := by decide +kernel
theorem dX8_solve_145 : decode cX8_solve 145 = .ok (.iconst 5, 1) := by decide +kernel
theorem dX8_solve_146 : decode cX8_solve 146 = .ok (.iload 4, 2) := by decide +kernel
theorem dX8_solve_148 : decode cX8_solve 148 = .ok (.imul, 1) := by decide +kernel
theorem dX8_solve_149 : decode cX8_solve 149 = .ok (.iconst 3, 1) := by decide +kernel
theorem dX8_solve_150 : decode cX8_solve 150 = .ok (.iadd, 1) := by decide +kernel
theorem dX8_solve_151 : decode cX8_solve 151 = .ok (.iaload, 1) := by decide +kernel
theorem dX8_solve_152 : decode cX8_solve 152 = .ok (.aload_n 0, 1) := by decide +kernel
theorem dX8_solve_153 : decode cX8_solve 153 = .ok (.getfield 50, 3) := by decide +kernel
theorem dX8_solve_156 : decode cX8_solve 156 = .ok (.iconst 5, 1) := by decide +kernel
theorem dX8_solve_157 : decode cX8_solve 157 = .ok (.iload 4, 2) := by decide +kernel
theorem dX8_solve_159 : decode cX8_solve 159 = .ok (.imul, 1) := by decide +kernel
theorem dX8_solve_160 : decode cX8_solve 160 = .ok (.iconst 1, 1) := by decide +kernel
theorem dX8_solve_161 : decode cX8_solve 161 = .ok (.iadd, 1) := by decide +kernel
theorem dX8_solve_162 : decode cX8_solve 162 = .ok (.iaload, 1) := by decide +kernel
theorem dX8_solve_163 : decode cX8_solve 163 = .ok (.isub, 1) := by decide +kernel
theorem dX8_solve_164 : decode cX8_solve 164 = .ok (.istore 8, 2) := by decide +kernel
theorem dX8_solve_166 : decode cX8_solve 166 = .ok (.aload_n 0, 1) := by decide +kernel
theorem dX8_solve_167 : decode cX8_solve 167 = .ok (.aload_n 0, 1) := by decide +kernel
theorem dX8_solve_168 : decode cX8_solve 168 = .ok (.getfield 50, 3) := by decide +kernel
theorem dX8_solve_171 : decode cX8_solve 171 = .ok (.iconst 5, 1) := by decide +kernel
theorem dX8_solve_172 : decode cX8_solve 172 = .ok (.iload 4, 2) := by decide +kernel
theorem dX8_solve_174 : decode cX8_solve 174 = .ok (.imul, 1) := by decide +kernel
theorem dX8_solve_175 : decode cX8_solve 175 = .ok (.iconst 2, 1) := by decide +kernel
theorem dX8_solve_176 : decode cX8_solve 176 = .ok (.iadd, 1) := by decide +kernel
theorem dX8_solve_177 : decode cX8_solve 177 = .ok (.iaload, 1) := by decide +kernel
theorem dX8_solve_178 : decode cX8_solve 178 = .ok (.aload_n 0, 1) := by decide +kernel
theorem dX8_solve_179 : decode cX8_solve 179 = .ok (.getfield 50, 3) := by decide +kernel
theorem dX8_solve_182 : decode cX8_solve 182 = .ok (.iconst 5, 1) := by decide +kernel
theorem dX8_solve_183 : decode cX8_solve 183 = .ok (.iload 4, 2) := by decide +kernel
theorem dX8_solve_185 : decode cX8_solve 185 = .ok (.imul, 1) := by decide +kernel
theorem dX8_solve_186 : decode cX8_solve 186 = .ok (.iaload, 1) := by decide +kernel
theorem dX8_solve_187 : decode cX8_solve 187 = .ok (.iload 8, 2) := by decide +kernel
theorem dX8_solve_189 : decode cX8_solve 189 = .ok (.iload 7, 2) := by decide +kernel
theorem dX8_solve_191 : decode cX8_solve 191 = .ok (.isub, 1) := by decide +kernel
theorem dX8_solve_192 : decode cX8_solve 192 = .ok (.iload 8, 2) := by decide +kernel
theorem dX8_solve_194 : decode cX8_solve 194 = .ok (.iload 7, 2) := by decide +kernel
theorem dX8_solve_196 : decode cX8_solve 196 = .ok (.iadd, 1) := by decide +kernel
theorem dX8_solve_197 : decode cX8_solve 197 = .ok (.invokevirtual 193, 3) := by decide +kernel
theorem dX8_solve_200 : decode cX8_solve 200 = .ok (.iload 6, 2) := by decide +kernel
theorem dX8_solve_202 : decode cX8_solve 202 = .ok (.ifCond .eq 15, 3) := by decide +kernel
theorem dX8_solve_205 : decode cX8_solve 205 = .ok (.aload_n 0, 1) := by decide +kernel
theorem dX8_solve_206 : decode cX8_solve 206 = .ok (.invokevirtual 211, 3) := by decide +kernel
theorem dX8_solve_209 : decode cX8_solve 209 = .ok (.ifCond .eq 8, 3) := by decide +kernel
theorem dX8_solve_212 : decode cX8_solve 212 = .ok (.aload_n 0, 1) := by decide +kernel
theorem dX8_solve_213 : decode cX8_solve 213 = .ok (.iload_n 2, 1) := by decide +kernel
theorem dX8_solve_214 : decode cX8_solve 214 = .ok (.invokevirtual 215, 3) := by decide +kernel
theorem dX8_solve_217 : decode cX8_solve 217 = .ok (.iinc 5 1, 3) := by decide +kernel
theorem dX8_solve_220 : decode cX8_solve 220 = .ok (.goto (-160), 3) := by decide +kernel
theorem dX8_solve_223 : decode cX8_solve 223 = .ok (.return_, 1) := by decide +kernel
theorem dX8_span_0 : decode cX8_span 0 = .ok (.iload_n 1, 1) := by decide +kernel
theorem dX8_span_1 : decode cX8_span 1 = .ok (.invokestatic 160, 3) := by decide +kernel
theorem dX8_span_4 : decode cX8_span 4 = .ok (.ifCond .ne 7, 3) := by decide +kernel
theorem dX8_span_7 : decode cX8_span 7 = .ok (.sipush (-9001), 3) := by decide +kernel
theorem dX8_span_10 : decode cX8_span 10 = .ok (.ireturn, 1) := by decide +kernel
theorem dX8_span_11 : decode cX8_span 11 = .ok (.iload_n 2, 1) := by decide +kernel
theorem dX8_span_12 : decode cX8_span 12 = .ok (.invokestatic 92, 3) := by decide +kernel
theorem dX8_span_15 : decode cX8_span 15 = .ok (.ifCond .ne 7, 3) := by decide +kernel
theorem dX8_span_18 : decode cX8_span 18 = .ok (.sipush (-9002), 3) := by decide +kernel
theorem dX8_span_21 : decode cX8_span 21 = .ok (.ireturn, 1) := by decide +kernel
theorem dX8_span_22 : decode cX8_span 22 = .ok (.aload_n 0, 1) := by decide +kernel
theorem dX8_span_23 : decode cX8_span 23 = .ok (.iload_n 3, 1) := by decide +kernel
theorem dX8_span_24 : decode cX8_span 24 = .ok (.invokevirtual 103, 3) := by decide +kernel
theorem dX8_span_27 : decode cX8_span 27 = .ok (.ifCond .ne 7, 3) := by decide +kernel
theorem dX8_span_30 : decode cX8_span 30 = .ok (.sipush (-9001), 3) := by decide +kernel
theorem dX8_span_33 : decode cX8_span 33 = .ok (.ireturn, 1) := by decide +kernel
theorem dX8_span_34 : decode cX8_span 34 = .ok (.iload 4, 2) := by decide +kernel
theorem dX8_span_36 : decode cX8_span 36 = .ok (.iconst 0, 1) := by decide +kernel
theorem dX8_span_37 : decode cX8_span 37 = .ok (.iconst 1, 1) := by decide +kernel
theorem dX8_span_38 : decode cX8_span 38 = .ok (.invokestatic 88, 3) := by decide +kernel
theorem dX8_span_41 : decode cX8_span 41 = .ok (.ifCond .ne 7, 3) := by decide +kernel
theorem dX8_span_44 : decode cX8_span 44 = .ok (.sipush (-9002), 3) := by decide +kernel
theorem dX8_span_47 : decode cX8_span 47 = .ok (.ireturn, 1) := by decide +kernel
theorem dX8_span_48 : decode cX8_span 48 = .ok (.aload_n 0, 1) := by decide +kernel
theorem dX8_span_49 : decode cX8_span 49 = .ok (.iload_n 1, 1) := by decide +kernel
theorem dX8_span_50 : decode cX8_span 50 = .ok (.iload_n 2, 1) := by decide +kernel
theorem dX8_span_51 : decode cX8_span 51 = .ok (.aload_n 0, 1) := by decide +kernel
theorem dX8_span_52 : decode cX8_span 52 = .ok (.iload_n 1, 1) := by decide +kernel
theorem dX8_span_53 : decode cX8_span 53 = .ok (.iload_n 2, 1) := by decide +kernel
theorem dX8_span_54 : decode cX8_span 54 = .ok (.invokevirtual 219, 3) := by decide +kernel
theorem dX8_span_57 : decode cX8_span 57 = .ok (.iconst (-1), 1) := by decide +kernel
theorem dX8_span_58 : decode cX8_span 58 = .ok (.invokevirtual 222, 3) := by decide +kernel
theorem dX8_span_61 : decode cX8_span 61 = .ok (.iload 4, 2) := by decide +kernel
theorem dX8_span_63 : decode cX8_span 63 = .ok (.ifCond .ne 12, 3) := by decide +kernel
theorem dX8_span_66 : decode cX8_span 66 = .ok (.aload_n 0, 1) := by decide +kernel
theorem dX8_span_67 : decode cX8_span 67 = .ok (.getfield 72, 3) := by decide +kernel
theorem dX8_span_70 : decode cX8_span 70 = .ok (.iload_n 3, 1) := by decide +kernel
theorem dX8_span_71 : decode cX8_span 71 = .ok (.iaload, 1) := by decide +kernel
theorem dX8_span_72 : decode cX8_span 72 = .ok (.goto 9, 3) := by decide +kernel
theorem dX8_span_75 : decode cX8_span 75 = .ok (.aload_n 0, 1) := by decide +kernel
theorem dX8_span_76 : decode cX8_span 76 = .ok (.getfield 75, 3) := by decide +kernel
theorem dX8_span_79 : decode cX8_span 79 = .ok (.iload_n 3, 1) := by decide +kernel
theorem dX8_span_80 : decode cX8_span 80 = .ok (.iaload, 1) := by decide +kernel
theorem dX8_span_81 : decode cX8_span 81 = .ok (.ireturn, 1) := by decide +kernel
theorem dX8_strike_0 : decode cX8_strike 0 = .ok (.iload_n 1, 1) := by decide +kernel
theorem dX8_strike_1 : decode cX8_strike 1 = .ok (.invokestatic 160, 3) := by decide +kernel
theorem dX8_strike_4 : decode cX8_strike 4 = .ok (.ifCond .ne 6, 3) := by decide +kernel
theorem dX8_strike_7 : decode cX8_strike 7 = .ok (.bipush (-101), 2) := by decide +kernel
theorem dX8_strike_9 : decode cX8_strike 9 = .ok (.ireturn, 1) := by decide +kernel
theorem dX8_strike_10 : decode cX8_strike 10 = .ok (.aload_n 0, 1) := by decide +kernel
theorem dX8_strike_11 : decode cX8_strike 11 = .ok (.getfield 41, 3) := by decide +kernel
theorem dX8_strike_14 : decode cX8_strike 14 = .ok (.iload_n 1, 1) := by decide +kernel
theorem dX8_strike_15 : decode cX8_strike 15 = .ok (.iaload, 1) := by decide +kernel
theorem dX8_strike_16 : decode cX8_strike 16 = .ok (.ifCond .ne 6, 3) := by decide +kernel
theorem dX8_strike_19 : decode cX8_strike 19 = .ok (.bipush (-103), 2) := by decide +kernel
theorem dX8_strike_21 : decode cX8_strike 21 = .ok (.ireturn, 1) := by decide +kernel
theorem dX8_strike_22 : decode cX8_strike 22 = .ok (.aload_n 0, 1) := by decide +kernel
theorem dX8_strike_23 : decode cX8_strike 23 = .ok (.getfield 41, 3) := by decide +kernel
theorem dX8_strike_26 : decode cX8_strike 26 = .ok (.iload_n 1, 1) := by decide +kernel
theorem dX8_strike_27 : decode cX8_strike 27 = .ok (.dup2, 1) := by decide +kernel
theorem dX8_strike_28 : decode cX8_strike 28 = .ok (.iaload, 1) := by decide +kernel
theorem dX8_strike_29 : decode cX8_strike 29 = .ok (.iconst 1, 1) := by decide +kernel
theorem dX8_strike_30 : decode cX8_strike 30 = .ok (.isub, 1) := by decide +kernel
theorem dX8_strike_31 : decode cX8_strike 31 = .ok (.iastore, 1) := by decide +kernel
theorem dX8_strike_32 : decode cX8_strike 32 = .ok (.aload_n 0, 1) := by decide +kernel
theorem dX8_strike_33 : decode cX8_strike 33 = .ok (.getfield 41, 3) := by decide +kernel
theorem dX8_strike_36 : decode cX8_strike 36 = .ok (.iload_n 1, 1) := by decide +kernel
theorem dX8_strike_37 : decode cX8_strike 37 = .ok (.iaload, 1) := by decide +kernel
theorem dX8_strike_38 : decode cX8_strike 38 = .ok (.ireturn, 1) := by decide +kernel
theorem dX8_take_0 : decode cX8_take 0 = .ok (.iconst 0, 1) := by decide +kernel
theorem dX8_take_1 : decode cX8_take 1 = .ok (.istore_n 2, 1) := by decide +kernel
theorem dX8_take_2 : decode cX8_take 2 = .ok (.iload_n 2, 1) := by decide +kernel
theorem dX8_take_3 : decode cX8_take 3 = .ok (.aload_n 0, 1) := by decide +kernel
theorem dX8_take_4 : decode cX8_take 4 = .ok (.getfield 84, 3) := by decide +kernel
theorem dX8_take_7 : decode cX8_take 7 = .ok (.if_icmp .ge 111, 3) := by decide +kernel
theorem dX8_take_10 : decode cX8_take 10 = .ok (.aload_n 0, 1) := by decide +kernel
theorem dX8_take_11 : decode cX8_take 11 = .ok (.iload_n 2, 1) := by decide +kernel
theorem dX8_take_12 : decode cX8_take 12 = .ok (.iload_n 1, 1) := by decide +kernel
theorem dX8_take_13 : decode cX8_take 13 = .ok (.invokevirtual 188, 3) := by decide +kernel
theorem dX8_take_16 : decode cX8_take 16 = .ok (.ifCond .eq 96, 3) := by decide +kernel
theorem dX8_take_19 : decode cX8_take 19 = .ok (.aload_n 0, 1) := by decide +kernel
theorem dX8_take_20 : decode cX8_take 20 = .ok (.getfield 66, 3) := by decide +kernel
theorem dX8_take_23 : decode cX8_take 23 = .ok (.bipush 11, 2) := by decide +kernel
theorem dX8_take_25 : decode cX8_take 25 = .ok (.iload_n 2, 1) := by decide +kernel
theorem dX8_take_26 : decode cX8_take 26 = .ok (.imul, 1) := by decide +kernel
theorem dX8_take_27 : decode cX8_take 27 = .ok (.bipush 10, 2) := by decide +kernel
theorem dX8_take_29 : decode cX8_take 29 = .ok (.iadd, 1) := by decide +kernel
theorem dX8_take_30 : decode cX8_take 30 = .ok (.iaload, 1) := by decide +kernel
theorem dX8_take_31 : decode cX8_take 31 = .ok (.ineg, 1) := by decide +kernel
theorem dX8_take_32 : decode cX8_take 32 = .ok (.istore_n 3, 1) := by decide +kernel
theorem dX8_take_33 : decode cX8_take 33 = .ok (.aload_n 0, 1) := by decide +kernel
theorem dX8_take_34 : decode cX8_take 34 = .ok (.getfield 66, 3) := by decide +kernel
theorem dX8_take_37 : decode cX8_take 37 = .ok (.bipush 110, 2) := by decide +kernel
theorem dX8_take_39 : decode cX8_take 39 = .ok (.iload_n 2, 1) := by decide +kernel
theorem dX8_take_40 : decode cX8_take 40 = .ok (.iadd, 1) := by decide +kernel
theorem dX8_take_41 : decode cX8_take 41 = .ok (.iaload, 1) := by decide +kernel
theorem dX8_take_42 : decode cX8_take 42 = .ok (.istore 4, 2) := by decide +kernel
theorem dX8_take_44 : decode cX8_take 44 = .ok (.aload_n 0, 1) := by decide +kernel
theorem dX8_take_45 : decode cX8_take 45 = .ok (.getfield 72, 3) := by decide +kernel
theorem dX8_take_48 : decode cX8_take 48 = .ok (.iload_n 2, 1) := by decide +kernel
theorem dX8_take_49 : decode cX8_take 49 = .ok (.aload_n 0, 1) := by decide +kernel
theorem dX8_take_50 : decode cX8_take 50 = .ok (.getfield 201, 3) := by decide +kernel
theorem dX8_take_53 : decode cX8_take 53 = .ok (.ifCond .eq 13, 3) := by decide +kernel
theorem dX8_take_56 : decode cX8_take 56 = .ok (.iload_n 3, 1) := by decide +kernel
theorem dX8_take_57 : decode cX8_take 57 = .ok (.aload_n 0, 1) := by decide +kernel
theorem dX8_take_58 : decode cX8_take 58 = .ok (.getfield 72, 3) := by decide +kernel
theorem dX8_take_61 : decode cX8_take 61 = .ok (.iload_n 2, 1) := by decide +kernel
theorem dX8_take_62 : decode cX8_take 62 = .ok (.iaload, 1) := by decide +kernel
theorem dX8_take_63 : decode cX8_take 63 = .ok (.if_icmp .ge 7, 3) := by decide +kernel
theorem dX8_take_66 : decode cX8_take 66 = .ok (.iload_n 3, 1) := by decide +kernel
theorem dX8_take_67 : decode cX8_take 67 = .ok (.goto 9, 3) := by decide +kernel
theorem dX8_take_70 : decode cX8_take 70 = .ok (.aload_n 0, 1) := by decide +kernel
theorem dX8_take_71 : decode cX8_take 71 = .ok (.getfield 72, 3) := by decide +kernel
theorem dX8_take_74 : decode cX8_take 74 = .ok (.iload_n 2, 1) := by decide +kernel
theorem dX8_take_75 : decode cX8_take 75 = .ok (.iaload, 1) := by decide +kernel
theorem dX8_take_76 : decode cX8_take 76 = .ok (.iastore, 1) := by decide +kernel
theorem dX8_take_77 : decode cX8_take 77 = .ok (.aload_n 0, 1) := by decide +kernel
theorem dX8_take_78 : decode cX8_take 78 = .ok (.getfield 75, 3) := by decide +kernel
theorem dX8_take_81 : decode cX8_take 81 = .ok (.iload_n 2, 1) := by decide +kernel
theorem dX8_take_82 : decode cX8_take 82 = .ok (.aload_n 0, 1) := by decide +kernel
theorem dX8_take_83 : decode cX8_take 83 = .ok (.getfield 201, 3) := by decide +kernel
theorem dX8_take_86 : decode cX8_take 86 = .ok (.ifCond .eq 14, 3) := by decide +kernel
theorem dX8_take_89 : decode cX8_take 89 = .ok (.iload 4, 2) := by decide +kernel
theorem dX8_take_91 : decode cX8_take 91 = .ok (.aload_n 0, 1) := by decide +kernel
theorem dX8_take_92 : decode cX8_take 92 = .ok (.getfield 75, 3) := by decide +kernel
theorem dX8_take_95 : decode cX8_take 95 = .ok (.iload_n 2, 1) := by decide +kernel
theorem dX8_take_96 : decode cX8_take 96 = .ok (.iaload, 1) := by decide +kernel
theorem dX8_take_97 : decode cX8_take 97 = .ok (.if_icmp .le 8, 3) := by decide +kernel
theorem dX8_take_100 : decode cX8_take 100 = .ok (.iload 4, 2) := by decide +kernel
theorem dX8_take_102 : decode cX8_take 102 = .ok (.goto 9, 3) := by decide +kernel
theorem dX8_take_105 : decode cX8_take 105 = .ok (.aload_n 0, 1) := by decide +kernel
theorem dX8_take_106 : decode cX8_take 106 = .ok (.getfield 75, 3) := by decide +kernel
theorem dX8_take_109 : decode cX8_take 109 = .ok (.iload_n 2, 1) := by decide +kernel
theorem dX8_take_110 : decode cX8_take 110 = .ok (.iaload, 1) := by decide +kernel
theorem dX8_take_111 : decode cX8_take 111 = .ok (.iastore, 1) := by decide +kernel
theorem dX8_take_112 : decode cX8_take 112 = .ok (.iinc 2 1, 3) := by decide +kernel
theorem dX8_take_115 : decode cX8_take 115 = .ok (.goto (-113), 3) := by decide +kernel
theorem dX8_take_118 : decode cX8_take 118 = .ok (.aload_n 0, 1) := by decide +kernel
theorem dX8_take_119 : decode cX8_take 119 = .ok (.iconst 1, 1) := by decide +kernel
theorem dX8_take_120 : decode cX8_take 120 = .ok (.putfield 201, 3) := by decide +kernel
theorem dX8_take_123 : decode cX8_take 123 = .ok (.return_, 1) := by decide +kernel
theorem dX8_tell_0 : decode cX8_tell 0 = .ok (.aload_n 0, 1) := by decide +kernel
theorem dX8_tell_1 : decode cX8_tell 1 = .ok (.iload_n 1, 1) := by decide +kernel
theorem dX8_tell_2 : decode cX8_tell 2 = .ok (.invokevirtual 103, 3) := by decide +kernel
theorem dX8_tell_5 : decode cX8_tell 5 = .ok (.ifCond .ne 7, 3) := by decide +kernel
theorem dX8_tell_8 : decode cX8_tell 8 = .ok (.sipush (-9001), 3) := by decide +kernel
theorem dX8_tell_11 : decode cX8_tell 11 = .ok (.ireturn, 1) := by decide +kernel
theorem dX8_tell_12 : decode cX8_tell 12 = .ok (.iload_n 2, 1) := by decide +kernel
theorem dX8_tell_13 : decode cX8_tell 13 = .ok (.invokestatic 132, 3) := by decide +kernel
theorem dX8_tell_16 : decode cX8_tell 16 = .ok (.ifCond .ne 7, 3) := by decide +kernel
theorem dX8_tell_19 : decode cX8_tell 19 = .ok (.sipush (-9002), 3) := by decide +kernel
theorem dX8_tell_22 : decode cX8_tell 22 = .ok (.ireturn, 1) := by decide +kernel
theorem dX8_tell_23 : decode cX8_tell 23 = .ok (.aload_n 0, 1) := by decide +kernel
theorem dX8_tell_24 : decode cX8_tell 24 = .ok (.getfield 28, 3) := by decide +kernel
theorem dX8_tell_27 : decode cX8_tell 27 = .ok (.iload_n 1, 1) := by decide +kernel
theorem dX8_tell_28 : decode cX8_tell 28 = .ok (.iaload, 1) := by decide +kernel
theorem dX8_tell_29 : decode cX8_tell 29 = .ok (.istore_n 3, 1) := by decide +kernel
theorem dX8_tell_30 : decode cX8_tell 30 = .ok (.aload_n 0, 1) := by decide +kernel
theorem dX8_tell_31 : decode cX8_tell 31 = .ok (.getfield 28, 3) := by decide +kernel
theorem dX8_tell_34 : decode cX8_tell 34 = .ok (.iload_n 1, 1) := by decide +kernel
theorem dX8_tell_35 : decode cX8_tell 35 = .ok (.iload_n 2, 1) := by decide +kernel
theorem dX8_tell_36 : decode cX8_tell 36 = .ok (.iastore, 1) := by decide +kernel
theorem dX8_tell_37 : decode cX8_tell 37 = .ok (.iload_n 3, 1) := by decide +kernel
theorem dX8_tell_38 : decode cX8_tell 38 = .ok (.ireturn, 1) := by decide +kernel
theorem dX8_text_0 : decode cX8_text 0 = .ok (.iload_n 1, 1) := by decide +kernel
theorem dX8_text_1 : decode cX8_text 1 = .ok (.invokestatic 160, 3) := by decide +kernel
theorem dX8_text_4 : decode cX8_text 4 = .ok (.ifCond .ne 6, 3) := by decide +kernel
theorem dX8_text_7 : decode cX8_text 7 = .ok (.bipush (-101), 2) := by decide +kernel
theorem dX8_text_9 : decode cX8_text 9 = .ok (.ireturn, 1) := by decide +kernel
theorem dX8_text_10 : decode cX8_text 10 = .ok (.aload_n 0, 1) := by decide +kernel
theorem dX8_text_11 : decode cX8_text 11 = .ok (.invokevirtual 157, 3) := by decide +kernel
theorem dX8_text_14 : decode cX8_text 14 = .ok (.aload_n 0, 1) := by decide +kernel
theorem dX8_text_15 : decode cX8_text 15 = .ok (.getfield 153, 3) := by decide +kernel
theorem dX8_text_18 : decode cX8_text 18 = .ok (.ifCond .ne 6, 3) := by decide +kernel
theorem dX8_text_21 : decode cX8_text 21 = .ok (.bipush (-103), 2) := by decide +kernel
theorem dX8_text_23 : decode cX8_text 23 = .ok (.ireturn, 1) := by decide +kernel
theorem dX8_text_24 : decode cX8_text 24 = .ok (.aload_n 0, 1) := by decide +kernel
theorem dX8_text_25 : decode cX8_text 25 = .ok (.getfield 41, 3) := by decide +kernel
theorem dX8_text_28 : decode cX8_text 28 = .ok (.iload_n 1, 1) := by decide +kernel
theorem dX8_text_29 : decode cX8_text 29 = .ok (.iaload, 1) := by decide +kernel
theorem dX8_text_30 : decode cX8_text 30 = .ok (.bipush 6, 2) := by decide +kernel
theorem dX8_text_32 : decode cX8_text 32 = .ok (.if_icmp .ne 6, 3) := by decide +kernel
theorem dX8_text_35 : decode cX8_text 35 = .ok (.bipush (-104), 2) := by decide +kernel
theorem dX8_text_37 : decode cX8_text 37 = .ok (.ireturn, 1) := by decide +kernel
theorem dX8_text_38 : decode cX8_text 38 = .ok (.bipush 6, 2) := by decide +kernel
theorem dX8_text_40 : decode cX8_text 40 = .ok (.iload_n 1, 1) := by decide +kernel
theorem dX8_text_41 : decode cX8_text 41 = .ok (.imul, 1) := by decide +kernel
theorem dX8_text_42 : decode cX8_text 42 = .ok (.aload_n 0, 1) := by decide +kernel
theorem dX8_text_43 : decode cX8_text 43 = .ok (.getfield 41, 3) := by decide +kernel
theorem dX8_text_46 : decode cX8_text 46 = .ok (.iload_n 1, 1) := by decide +kernel
theorem dX8_text_47 : decode cX8_text 47 = .ok (.iaload, 1) := by decide +kernel
theorem dX8_text_48 : decode cX8_text 48 = .ok (.iadd, 1) := by decide +kernel
theorem dX8_text_49 : decode cX8_text 49 = .ok (.istore_n 2, 1) := by decide +kernel
theorem dX8_text_50 : decode cX8_text 50 = .ok (.iconst 0, 1) := by decide +kernel
theorem dX8_text_51 : decode cX8_text 51 = .ok (.istore_n 3, 1) := by decide +kernel
theorem dX8_text_52 : decode cX8_text 52 = .ok (.iload_n 3, 1) := by decide +kernel
theorem dX8_text_53 : decode cX8_text 53 = .ok (.aload_n 0, 1) := by decide +kernel
theorem dX8_text_54 : decode cX8_text 54 = .ok (.getfield 140, 3) := by decide +kernel
theorem dX8_text_57 : decode cX8_text 57 = .ok (.if_icmp .ge 26, 3) := by decide +kernel
theorem dX8_text_60 : decode cX8_text 60 = .ok (.aload_n 0, 1) := by decide +kernel
theorem dX8_text_61 : decode cX8_text 61 = .ok (.getfield 44, 3) := by decide +kernel
theorem dX8_text_64 : decode cX8_text 64 = .ok (.bipush 60, 2) := by decide +kernel
theorem dX8_text_66 : decode cX8_text 66 = .ok (.iload_n 2, 1) := by decide +kernel
theorem dX8_text_67 : decode cX8_text 67 = .ok (.imul, 1) := by decide +kernel
theorem dX8_text_68 : decode cX8_text 68 = .ok (.iload_n 3, 1) := by decide +kernel
theorem dX8_text_69 : decode cX8_text 69 = .ok (.iadd, 1) := by decide +kernel
theorem dX8_text_70 : decode cX8_text 70 = .ok (.aload_n 0, 1) := by decide +kernel
theorem dX8_text_71 : decode cX8_text 71 = .ok (.getfield 37, 3) := by decide +kernel
theorem dX8_text_74 : decode cX8_text 74 = .ok (.iload_n 3, 1) := by decide +kernel
theorem dX8_text_75 : decode cX8_text 75 = .ok (.baload, 1) := by decide +kernel
theorem dX8_text_76 : decode cX8_text 76 = .ok (.bastore, 1) := by decide +kernel
theorem dX8_text_77 : decode cX8_text 77 = .ok (.iinc 3 1, 3) := by decide +kernel
theorem dX8_text_80 : decode cX8_text 80 = .ok (.goto (-28), 3) := by decide +kernel
theorem dX8_text_83 : decode cX8_text 83 = .ok (.aload_n 0, 1) := by decide +kernel
theorem dX8_text_84 : decode cX8_text 84 = .ok (.getfield 47, 3) := by decide +kernel
theorem dX8_text_87 : decode cX8_text 87 = .ok (.iload_n 2, 1) := by decide +kernel
theorem dX8_text_88 : decode cX8_text 88 = .ok (.aload_n 0, 1) := by decide +kernel
theorem dX8_text_89 : decode cX8_text 89 = .ok (.getfield 140, 3) := by decide +kernel
theorem dX8_text_92 : decode cX8_text 92 = .ok (.iastore, 1) := by decide +kernel
theorem dX8_text_93 : decode cX8_text 93 = .ok (.aload_n 0, 1) := by decide +kernel
theorem dX8_text_94 : decode cX8_text 94 = .ok (.getfield 41, 3) := by decide +kernel
theorem dX8_text_97 : decode cX8_text 97 = .ok (.iload_n 1, 1) := by decide +kernel
theorem dX8_text_98 : decode cX8_text 98 = .ok (.dup2, 1) := by decide +kernel
theorem dX8_text_99 : decode cX8_text 99 = .ok (.iaload, 1) := by decide +kernel
theorem dX8_text_100 : decode cX8_text 100 = .ok (.iconst 1, 1) := by decide +kernel
theorem dX8_text_101 : decode cX8_text 101 = .ok (.iadd, 1) := by decide +kernel
theorem dX8_text_102 : decode cX8_text 102 = .ok (.iastore, 1) := by decide +kernel
theorem dX8_text_103 : decode cX8_text 103 = .ok (.aload_n 0, 1) := by decide +kernel
theorem dX8_text_104 : decode cX8_text 104 = .ok (.iconst 0, 1) := by decide +kernel
theorem dX8_text_105 : decode cX8_text 105 = .ok (.putfield 140, 3) := by decide +kernel
theorem dX8_text_108 : decode cX8_text 108 = .ok (.aload_n 0, 1) := by decide +kernel
theorem dX8_text_109 : decode cX8_text 109 = .ok (.getfield 41, 3) := by decide +kernel
theorem dX8_text_112 : decode cX8_text 112 = .ok (.iload_n 1, 1) := by decide +kernel
theorem dX8_text_113 : decode cX8_text 113 = .ok (.iaload, 1) := by decide +kernel
theorem dX8_text_114 : decode cX8_text 114 = .ok (.ireturn, 1) := by decide +kernel
theorem dX8_tie_0 : decode cX8_tie 0 = .ok (.aload_n 0, 1) := by decide +kernel
theorem dX8_tie_1 : decode cX8_tie 1 = .ok (.iload_n 1, 1) := by decide +kernel
theorem dX8_tie_2 : decode cX8_tie 2 = .ok (.invokevirtual 103, 3) := by decide +kernel
theorem dX8_tie_5 : decode cX8_tie 5 = .ok (.ifCond .eq 16, 3) := by decide +kernel
theorem dX8_tie_8 : decode cX8_tie 8 = .ok (.aload_n 0, 1) := by decide +kernel
theorem dX8_tie_9 : decode cX8_tie 9 = .ok (.iload_n 3, 1) := by decide +kernel
theorem dX8_tie_10 : decode cX8_tie 10 = .ok (.invokevirtual 103, 3) := by decide +kernel
theorem dX8_tie_13 : decode cX8_tie 13 = .ok (.ifCond .eq 8, 3) := by decide +kernel
theorem dX8_tie_16 : decode cX8_tie 16 = .ok (.iload_n 1, 1) := by decide +kernel
theorem dX8_tie_17 : decode cX8_tie 17 = .ok (.iload_n 3, 1) := by decide +kernel
theorem dX8_tie_18 : decode cX8_tie 18 = .ok (.if_icmp .ne 6, 3) := by decide +kernel
theorem dX8_tie_21 : decode cX8_tie 21 = .ok (.bipush (-101), 2) := by decide +kernel
theorem dX8_tie_23 : decode cX8_tie 23 = .ok (.ireturn, 1) := by decide +kernel
theorem dX8_tie_24 : decode cX8_tie 24 = .ok (.iload_n 2, 1) := by decide +kernel
theorem dX8_tie_25 : decode cX8_tie 25 = .ok (.invokestatic 125, 3) := by decide +kernel
theorem dX8_tie_28 : decode cX8_tie 28 = .ok (.ifCond .eq 47, 3) := by decide +kernel
theorem dX8_tie_31 : decode cX8_tie 31 = .ok (.iload 4, 2) := by decide +kernel
theorem dX8_tie_33 : decode cX8_tie 33 = .ok (.invokestatic 125, 3) := by decide +kernel
theorem dX8_tie_36 : decode cX8_tie 36 = .ok (.ifCond .eq 39, 3) := by decide +kernel
theorem dX8_tie_39 : decode cX8_tie 39 = .ok (.iload 5, 2) := by decide +kernel
theorem dX8_tie_41 : decode cX8_tie 41 = .ok (.iconst 0, 1) := by decide +kernel
theorem dX8_tie_42 : decode cX8_tie 42 = .ok (.bipush 20, 2) := by decide +kernel
theorem dX8_tie_44 : decode cX8_tie 44 = .ok (.invokestatic 88, 3) := by decide +kernel
theorem dX8_tie_47 : decode cX8_tie 47 = .ok (.ifCond .eq 28, 3) := by decide +kernel
theorem dX8_tie_50 : decode cX8_tie 50 = .ok (.iload 6, 2) := by decide +kernel
theorem dX8_tie_52 : decode cX8_tie 52 = .ok (.invokestatic 92, 3) := by decide +kernel
theorem dX8_tie_55 : decode cX8_tie 55 = .ok (.ifCond .eq 20, 3) := by decide +kernel
theorem dX8_tie_58 : decode cX8_tie 58 = .ok (.aload_n 0, 1) := by decide +kernel
theorem dX8_tie_59 : decode cX8_tie 59 = .ok (.iconst 0, 1) := by decide +kernel
theorem dX8_tie_60 : decode cX8_tie 60 = .ok (.iload_n 1, 1) := by decide +kernel
theorem dX8_tie_61 : decode cX8_tie 61 = .ok (.iload_n 2, 1) := by decide +kernel
theorem dX8_tie_62 : decode cX8_tie 62 = .ok (.iload_n 3, 1) := by decide +kernel
theorem dX8_tie_63 : decode cX8_tie 63 = .ok (.iload 4, 2) := by decide +kernel
theorem dX8_tie_65 : decode cX8_tie 65 = .ok (.iload 5, 2) := by decide +kernel
theorem dX8_tie_67 : decode cX8_tie 67 = .ok (.iload 6, 2) := by decide +kernel
theorem dX8_tie_69 : decode cX8_tie 69 = .ok (.invokevirtual 128, 3) := by decide +kernel
theorem dX8_tie_72 : decode cX8_tie 72 = .ok (.goto 5, 3) := by decide +kernel
theorem dX8_tie_75 : decode cX8_tie 75 = .ok (.bipush (-102), 2) := by decide +kernel
theorem dX8_tie_77 : decode cX8_tie 77 = .ok (.ireturn, 1) := by decide +kernel
theorem dX8_tied_0 : decode cX8_tied 0 = .ok (.aload_n 0, 1) := by decide +kernel
theorem dX8_tied_1 : decode cX8_tied 1 = .ok (.iload_n 1, 1) := by decide +kernel
theorem dX8_tied_2 : decode cX8_tied 2 = .ok (.invokevirtual 135, 3) := by decide +kernel
theorem dX8_tied_5 : decode cX8_tied 5 = .ok (.ifCond .ne 8, 3) := by decide +kernel
theorem dX8_tied_8 : decode cX8_tied 8 = .ok (.bipush (-101), 2) := by decide +kernel
theorem dX8_tied_10 : decode cX8_tied 10 = .ok (.goto 29, 3) := by decide +kernel
theorem dX8_tied_13 : decode cX8_tied 13 = .ok (.iload_n 2, 1) := by decide +kernel
theorem dX8_tied_14 : decode cX8_tied 14 = .ok (.iconst 0, 1) := by decide +kernel
theorem dX8_tied_15 : decode cX8_tied 15 = .ok (.bipush 6, 2) := by decide +kernel
theorem dX8_tied_17 : decode cX8_tied 17 = .ok (.invokestatic 88, 3) := by decide +kernel
theorem dX8_tied_20 : decode cX8_tied 20 = .ok (.ifCond .eq 17, 3) := by decide +kernel
theorem dX8_tied_23 : decode cX8_tied 23 = .ok (.aload_n 0, 1) := by decide +kernel
theorem dX8_tied_24 : decode cX8_tied 24 = .ok (.getfield 31, 3) := by decide +kernel
theorem dX8_tied_27 : decode cX8_tied 27 = .ok (.bipush 7, 2) := by decide +kernel
theorem dX8_tied_29 : decode cX8_tied 29 = .ok (.iload_n 1, 1) := by decide +kernel
theorem dX8_tied_30 : decode cX8_tied 30 = .ok (.imul, 1) := by decide +kernel
theorem dX8_tied_31 : decode cX8_tied 31 = .ok (.iload_n 2, 1) := by decide +kernel
theorem dX8_tied_32 : decode cX8_tied 32 = .ok (.iadd, 1) := by decide +kernel
theorem dX8_tied_33 : decode cX8_tied 33 = .ok (.iaload, 1) := by decide +kernel
theorem dX8_tied_34 : decode cX8_tied 34 = .ok (.goto 5, 3) := by decide +kernel
theorem dX8_tied_37 : decode cX8_tied 37 = .ok (.bipush (-102), 2) := by decide +kernel
theorem dX8_tied_39 : decode cX8_tied 39 = .ok (.ireturn, 1) := by decide +kernel
theorem dX8_tiesOf_0 : decode cX8_tiesOf 0 = .ok (.iconst 0, 1) := by decide +kernel
theorem dX8_tiesOf_1 : decode cX8_tiesOf 1 = .ok (.istore_n 3, 1) := by decide +kernel
theorem dX8_tiesOf_2 : decode cX8_tiesOf 2 = .ok (.iconst 0, 1) := by decide +kernel
theorem dX8_tiesOf_3 : decode cX8_tiesOf 3 = .ok (.istore 4, 2) := by decide +kernel
theorem dX8_tiesOf_5 : decode cX8_tiesOf 5 = .ok (.iload 4, 2) := by decide +kernel
theorem dX8_tiesOf_7 : decode cX8_tiesOf 7 = .ok (.aload_n 0, 1) := by decide +kernel
theorem dX8_tiesOf_8 : decode cX8_tiesOf 8 = .ok (.getfield 122, 3) := by decide +kernel
theorem dX8_tiesOf_11 : decode cX8_tiesOf 11 = .ok (.if_icmp .ge 116, 3) := by decide +kernel
theorem dX8_tiesOf_14 : decode cX8_tiesOf 14 = .ok (.aload_n 0, 1) := by decide +kernel
theorem dX8_tiesOf_15 : decode cX8_tiesOf 15 = .ok (.getfield 31, 3) := by decide +kernel
theorem dX8_tiesOf_18 : decode cX8_tiesOf 18 = .ok (.bipush 7, 2) := by decide +kernel
theorem dX8_tiesOf_20 : decode cX8_tiesOf 20 = .ok (.iload 4, 2) := by decide +kernel
theorem dX8_tiesOf_22 : decode cX8_tiesOf 22 = .ok (.imul, 1) := by decide +kernel
theorem dX8_tiesOf_23 : decode cX8_tiesOf 23 = .ok (.bipush 6, 2) := by decide +kernel
theorem dX8_tiesOf_25 : decode cX8_tiesOf 25 = .ok (.iadd, 1) := by decide +kernel
theorem dX8_tiesOf_26 : decode cX8_tiesOf 26 = .ok (.iaload, 1) := by decide +kernel
theorem dX8_tiesOf_27 : decode cX8_tiesOf 27 = .ok (.iload_n 2, 1) := by decide +kernel
theorem dX8_tiesOf_28 : decode cX8_tiesOf 28 = .ok (.if_icmp .gt 63, 3) := by decide +kernel
theorem dX8_tiesOf_31 : decode cX8_tiesOf 31 = .ok (.aload_n 0, 1) := by decide +kernel
theorem dX8_tiesOf_32 : decode cX8_tiesOf 32 = .ok (.aload_n 0, 1) := by decide +kernel
theorem dX8_tiesOf_33 : decode cX8_tiesOf 33 = .ok (.getfield 31, 3) := by decide +kernel
theorem dX8_tiesOf_36 : decode cX8_tiesOf 36 = .ok (.bipush 7, 2) := by decide +kernel
theorem dX8_tiesOf_38 : decode cX8_tiesOf 38 = .ok (.iload 4, 2) := by decide +kernel
theorem dX8_tiesOf_40 : decode cX8_tiesOf 40 = .ok (.imul, 1) := by decide +kernel
theorem dX8_tiesOf_41 : decode cX8_tiesOf 41 = .ok (.iconst 1, 1) := by decide +kernel
theorem dX8_tiesOf_42 : decode cX8_tiesOf 42 = .ok (.iadd, 1) := by decide +kernel
theorem dX8_tiesOf_43 : decode cX8_tiesOf 43 = .ok (.iaload, 1) := by decide +kernel
theorem dX8_tiesOf_44 : decode cX8_tiesOf 44 = .ok (.iload_n 2, 1) := by decide +kernel
theorem dX8_tiesOf_45 : decode cX8_tiesOf 45 = .ok (.invokevirtual 188, 3) := by decide +kernel
theorem dX8_tiesOf_48 : decode cX8_tiesOf 48 = .ok (.ifCond .eq 43, 3) := by decide +kernel
theorem dX8_tiesOf_51 : decode cX8_tiesOf 51 = .ok (.aload_n 0, 1) := by decide +kernel
theorem dX8_tiesOf_52 : decode cX8_tiesOf 52 = .ok (.getfield 31, 3) := by decide +kernel
theorem dX8_tiesOf_55 : decode cX8_tiesOf 55 = .ok (.bipush 7, 2) := by decide +kernel
theorem dX8_tiesOf_57 : decode cX8_tiesOf 57 = .ok (.iload 4, 2) := by decide +kernel
theorem dX8_tiesOf_59 : decode cX8_tiesOf 59 = .ok (.imul, 1) := by decide +kernel
theorem dX8_tiesOf_60 : decode cX8_tiesOf 60 = .ok (.iconst 3, 1) := by decide +kernel
theorem dX8_tiesOf_61 : decode cX8_tiesOf 61 = .ok (.iadd, 1) := by decide +kernel
theorem dX8_tiesOf_62 : decode cX8_tiesOf 62 = .ok (.iaload, 1) := by decide +kernel
theorem dX8_tiesOf_63 : decode cX8_tiesOf 63 = .ok (.iconst (-1), 1) := by decide +kernel
theorem dX8_tiesOf_64 : decode cX8_tiesOf 64 = .ok (.if_icmp .eq 23, 3) := by decide +kernel
theorem dX8_tiesOf_67 : decode cX8_tiesOf 67 = .ok (.aload_n 0, 1) := by decide +kernel
theorem dX8_tiesOf_68 : decode cX8_tiesOf 68 = .ok (.aload_n 0, 1) := by decide +kernel
theorem dX8_tiesOf_69 : decode cX8_tiesOf 69 = .ok (.getfield 31, 3) := by decide +kernel
theorem dX8_tiesOf_72 : decode cX8_tiesOf 72 = .ok (.bipush 7, 2) := by decide +kernel
theorem dX8_tiesOf_74 : decode cX8_tiesOf 74 = .ok (.iload 4, 2) := by decide +kernel
theorem dX8_tiesOf_76 : decode cX8_tiesOf 76 = .ok (.imul, 1) := by decide +kernel
theorem dX8_tiesOf_77 : decode cX8_tiesOf 77 = .ok (.iconst 3, 1) := by decide +kernel
theorem dX8_tiesOf_78 : decode cX8_tiesOf 78 = .ok (.iadd, 1) := by decide +kernel
theorem dX8_tiesOf_79 : decode cX8_tiesOf 79 = .ok (.iaload, 1) := by decide +kernel
theorem dX8_tiesOf_80 : decode cX8_tiesOf 80 = .ok (.iload_n 2, 1) := by decide +kernel
theorem dX8_tiesOf_81 : decode cX8_tiesOf 81 = .ok (.invokevirtual 188, 3) := by decide +kernel
theorem dX8_tiesOf_84 : decode cX8_tiesOf 84 = .ok (.ifCond .eq 7, 3) := by decide +kernel
theorem dX8_tiesOf_87 : decode cX8_tiesOf 87 = .ok (.iconst 1, 1) := by decide +kernel
theorem dX8_tiesOf_88 : decode cX8_tiesOf 88 = .ok (.goto 4, 3) := by decide +kernel
theorem dX8_tiesOf_91 : decode cX8_tiesOf 91 = .ok (.iconst 0, 1) := by decide +kernel
theorem dX8_tiesOf_92 : decode cX8_tiesOf 92 = .ok (.istore 5, 2) := by decide +kernel
theorem dX8_tiesOf_94 : decode cX8_tiesOf 94 = .ok (.iload_n 3, 1) := by decide +kernel
theorem dX8_tiesOf_95 : decode cX8_tiesOf 95 = .ok (.iload 5, 2) := by decide +kernel
theorem dX8_tiesOf_97 : decode cX8_tiesOf 97 = .ok (.ifCond .eq 21, 3) := by decide +kernel
theorem dX8_tiesOf_100 : decode cX8_tiesOf 100 = .ok (.aload_n 0, 1) := by decide +kernel
theorem dX8_tiesOf_101 : decode cX8_tiesOf 101 = .ok (.iload_n 1, 1) := by decide +kernel
theorem dX8_tiesOf_102 : decode cX8_tiesOf 102 = .ok (.iload 4, 2) := by decide +kernel
theorem dX8_tiesOf_104 : decode cX8_tiesOf 104 = .ok (.invokevirtual 185, 3) := by decide +kernel
theorem dX8_tiesOf_107 : decode cX8_tiesOf 107 = .ok (.iconst 1, 1) := by decide +kernel
theorem dX8_tiesOf_108 : decode cX8_tiesOf 108 = .ok (.if_icmp .ne 10, 3) := by decide +kernel
theorem dX8_tiesOf_111 : decode cX8_tiesOf 111 = .ok (.iconst 1, 1) := by decide +kernel
theorem dX8_tiesOf_112 : decode cX8_tiesOf 112 = .ok (.iload 4, 2) := by decide +kernel
theorem dX8_tiesOf_114 : decode cX8_tiesOf 114 = .ok (.ishl, 1) := by decide +kernel
theorem dX8_tiesOf_115 : decode cX8_tiesOf 115 = .ok (.goto 4, 3) := by decide +kernel
theorem dX8_tiesOf_118 : decode cX8_tiesOf 118 = .ok (.iconst 0, 1) := by decide +kernel
theorem dX8_tiesOf_119 : decode cX8_tiesOf 119 = .ok (.ior, 1) := by decide +kernel
theorem dX8_tiesOf_120 : decode cX8_tiesOf 120 = .ok (.istore_n 3, 1) := by decide +kernel
theorem dX8_tiesOf_121 : decode cX8_tiesOf 121 = .ok (.iinc 4 1, 3) := by decide +kernel
theorem dX8_tiesOf_124 : decode cX8_tiesOf 124 = .ok (.goto (-119), 3) := by decide +kernel
theorem dX8_tiesOf_127 : decode cX8_tiesOf 127 = .ok (.iload_n 3, 1) := by decide +kernel
theorem dX8_tiesOf_128 : decode cX8_tiesOf 128 = .ok (.ireturn, 1) := by decide +kernel
theorem dX8_undo_0 : decode cX8_undo 0 = .ok (.aload_n 0, 1) := by decide +kernel
theorem dX8_undo_1 : decode cX8_undo 1 = .ok (.getfield 122, 3) := by decide +kernel
theorem dX8_undo_4 : decode cX8_undo 4 = .ok (.ifCond .ne 6, 3) := by decide +kernel
theorem dX8_undo_7 : decode cX8_undo 7 = .ok (.bipush (-103), 2) := by decide +kernel
theorem dX8_undo_9 : decode cX8_undo 9 = .ok (.ireturn, 1) := by decide +kernel
theorem dX8_undo_10 : decode cX8_undo 10 = .ok (.aload_n 0, 1) := by decide +kernel
theorem dX8_undo_11 : decode cX8_undo 11 = .ok (.dup, 1) := by decide +kernel
theorem dX8_undo_12 : decode cX8_undo 12 = .ok (.getfield 122, 3) := by decide +kernel
theorem dX8_undo_15 : decode cX8_undo 15 = .ok (.iconst 1, 1) := by decide +kernel
theorem dX8_undo_16 : decode cX8_undo 16 = .ok (.isub, 1) := by decide +kernel
theorem dX8_undo_17 : decode cX8_undo 17 = .ok (.putfield 122, 3) := by decide +kernel
theorem dX8_undo_20 : decode cX8_undo 20 = .ok (.aload_n 0, 1) := by decide +kernel
theorem dX8_undo_21 : decode cX8_undo 21 = .ok (.getfield 122, 3) := by decide +kernel
theorem dX8_undo_24 : decode cX8_undo 24 = .ok (.ireturn, 1) := by decide +kernel
theorem dX8_wish_0 : decode cX8_wish 0 = .ok (.aload_n 0, 1) := by decide +kernel
theorem dX8_wish_1 : decode cX8_wish 1 = .ok (.iload_n 1, 1) := by decide +kernel
theorem dX8_wish_2 : decode cX8_wish 2 = .ok (.invokevirtual 103, 3) := by decide +kernel
theorem dX8_wish_5 : decode cX8_wish 5 = .ok (.ifCond .eq 16, 3) := by decide +kernel
theorem dX8_wish_8 : decode cX8_wish 8 = .ok (.aload_n 0, 1) := by decide +kernel
theorem dX8_wish_9 : decode cX8_wish 9 = .ok (.iload_n 3, 1) := by decide +kernel
theorem dX8_wish_10 : decode cX8_wish 10 = .ok (.invokevirtual 103, 3) := by decide +kernel
theorem dX8_wish_13 : decode cX8_wish 13 = .ok (.ifCond .eq 8, 3) := by decide +kernel
theorem dX8_wish_16 : decode cX8_wish 16 = .ok (.iload_n 1, 1) := by decide +kernel
theorem dX8_wish_17 : decode cX8_wish 17 = .ok (.iload_n 3, 1) := by decide +kernel
theorem dX8_wish_18 : decode cX8_wish 18 = .ok (.if_icmp .ne 6, 3) := by decide +kernel
theorem dX8_wish_21 : decode cX8_wish 21 = .ok (.bipush (-101), 2) := by decide +kernel
theorem dX8_wish_23 : decode cX8_wish 23 = .ok (.ireturn, 1) := by decide +kernel
theorem dX8_wish_24 : decode cX8_wish 24 = .ok (.iload_n 2, 1) := by decide +kernel
theorem dX8_wish_25 : decode cX8_wish 25 = .ok (.invokestatic 125, 3) := by decide +kernel
theorem dX8_wish_28 : decode cX8_wish 28 = .ok (.ifCond .eq 22, 3) := by decide +kernel
theorem dX8_wish_31 : decode cX8_wish 31 = .ok (.iload 4, 2) := by decide +kernel
theorem dX8_wish_33 : decode cX8_wish 33 = .ok (.invokestatic 125, 3) := by decide +kernel
theorem dX8_wish_36 : decode cX8_wish 36 = .ok (.ifCond .eq 14, 3) := by decide +kernel
theorem dX8_wish_39 : decode cX8_wish 39 = .ok (.iload 5, 2) := by decide +kernel
theorem dX8_wish_41 : decode cX8_wish 41 = .ok (.iconst 0, 1) := by decide +kernel
theorem dX8_wish_42 : decode cX8_wish 42 = .ok (.bipush 20, 2) := by decide +kernel
theorem dX8_wish_44 : decode cX8_wish 44 = .ok (.invokestatic 88, 3) := by decide +kernel
theorem dX8_wish_47 : decode cX8_wish 47 = .ok (.ifCond .ne 6, 3) := by decide +kernel
theorem dX8_wish_50 : decode cX8_wish 50 = .ok (.bipush (-102), 2) := by decide +kernel
theorem dX8_wish_52 : decode cX8_wish 52 = .ok (.ireturn, 1) := by decide +kernel
theorem dX8_wish_53 : decode cX8_wish 53 = .ok (.aload_n 0, 1) := by decide +kernel
theorem dX8_wish_54 : decode cX8_wish 54 = .ok (.getfield 237, 3) := by decide +kernel
theorem dX8_wish_57 : decode cX8_wish 57 = .ok (.bipush 6, 2) := by decide +kernel
theorem dX8_wish_59 : decode cX8_wish 59 = .ok (.if_icmp .ne 6, 3) := by decide +kernel
theorem dX8_wish_62 : decode cX8_wish 62 = .ok (.bipush (-104), 2) := by decide +kernel
theorem dX8_wish_64 : decode cX8_wish 64 = .ok (.ireturn, 1) := by decide +kernel
theorem dX8_wish_65 : decode cX8_wish 65 = .ok (.aload_n 0, 1) := by decide +kernel
theorem dX8_wish_66 : decode cX8_wish 66 = .ok (.getfield 50, 3) := by decide +kernel
theorem dX8_wish_69 : decode cX8_wish 69 = .ok (.iconst 5, 1) := by decide +kernel
theorem dX8_wish_70 : decode cX8_wish 70 = .ok (.aload_n 0, 1) := by decide +kernel
theorem dX8_wish_71 : decode cX8_wish 71 = .ok (.getfield 237, 3) := by decide +kernel
theorem dX8_wish_74 : decode cX8_wish 74 = .ok (.imul, 1) := by decide +kernel
theorem dX8_wish_75 : decode cX8_wish 75 = .ok (.iload_n 1, 1) := by decide +kernel
theorem dX8_wish_76 : decode cX8_wish 76 = .ok (.iastore, 1) := by decide +kernel
theorem dX8_wish_77 : decode cX8_wish 77 = .ok (.aload_n 0, 1) := by decide +kernel
theorem dX8_wish_78 : decode cX8_wish 78 = .ok (.getfield 50, 3) := by decide +kernel
theorem dX8_wish_81 : decode cX8_wish 81 = .ok (.iconst 5, 1) := by decide +kernel
theorem dX8_wish_82 : decode cX8_wish 82 = .ok (.aload_n 0, 1) := by decide +kernel
theorem dX8_wish_83 : decode cX8_wish 83 = .ok (.getfield 237, 3) := by decide +kernel
theorem dX8_wish_86 : decode cX8_wish 86 = .ok (.imul, 1) := by decide +kernel
theorem dX8_wish_87 : decode cX8_wish 87 = .ok (.iconst 1, 1) := by decide +kernel
theorem dX8_wish_88 : decode cX8_wish 88 = .ok (.iadd, 1) := by decide +kernel
theorem dX8_wish_89 : decode cX8_wish 89 = .ok (.iload_n 2, 1) := by decide +kernel
theorem dX8_wish_90 : decode cX8_wish 90 = .ok (.iastore, 1) := by decide +kernel
theorem dX8_wish_91 : decode cX8_wish 91 = .ok (.aload_n 0, 1) := by decide +kernel
theorem dX8_wish_92 : decode cX8_wish 92 = .ok (.getfield 50, 3) := by decide +kernel
theorem dX8_wish_95 : decode cX8_wish 95 = .ok (.iconst 5, 1) := by decide +kernel
theorem dX8_wish_96 : decode cX8_wish 96 = .ok (.aload_n 0, 1) := by decide +kernel
theorem dX8_wish_97 : decode cX8_wish 97 = .ok (.getfield 237, 3) := by decide +kernel
theorem dX8_wish_100 : decode cX8_wish 100 = .ok (.imul, 1) := by decide +kernel
theorem dX8_wish_101 : decode cX8_wish 101 = .ok (.iconst 2, 1) := by decide +kernel
theorem dX8_wish_102 : decode cX8_wish 102 = .ok (.iadd, 1) := by decide +kernel
theorem dX8_wish_103 : decode cX8_wish 103 = .ok (.iload_n 3, 1) := by decide +kernel
theorem dX8_wish_104 : decode cX8_wish 104 = .ok (.iastore, 1) := by decide +kernel
theorem dX8_wish_105 : decode cX8_wish 105 = .ok (.aload_n 0, 1) := by decide +kernel
theorem dX8_wish_106 : decode cX8_wish 106 = .ok (.getfield 50, 3) := by decide +kernel
theorem dX8_wish_109 : decode cX8_wish 109 = .ok (.iconst 5, 1) := by decide +kernel
theorem dX8_wish_110 : decode cX8_wish 110 = .ok (.aload_n 0, 1) := by decide +kernel
theorem dX8_wish_111 : decode cX8_wish 111 = .ok (.getfield 237, 3) := by decide +kernel
theorem dX8_wish_114 : decode cX8_wish 114 = .ok (.imul, 1) := by decide +kernel
theorem dX8_wish_115 : decode cX8_wish 115 = .ok (.iconst 3, 1) := by decide +kernel
theorem dX8_wish_116 : decode cX8_wish 116 = .ok (.iadd, 1) := by decide +kernel
theorem dX8_wish_117 : decode cX8_wish 117 = .ok (.iload 4, 2) := by decide +kernel
theorem dX8_wish_119 : decode cX8_wish 119 = .ok (.iastore, 1) := by decide +kernel
theorem dX8_wish_120 : decode cX8_wish 120 = .ok (.aload_n 0, 1) := by decide +kernel
theorem dX8_wish_121 : decode cX8_wish 121 = .ok (.getfield 50, 3) := by decide +kernel
theorem dX8_wish_124 : decode cX8_wish 124 = .ok (.iconst 5, 1) := by decide +kernel
theorem dX8_wish_125 : decode cX8_wish 125 = .ok (.aload_n 0, 1) := by decide +kernel
theorem dX8_wish_126 : decode cX8_wish 126 = .ok (.getfield 237, 3) := by decide +kernel
theorem dX8_wish_129 : decode cX8_wish 129 = .ok (.imul, 1) := by decide +kernel
theorem dX8_wish_130 : decode cX8_wish 130 = .ok (.iconst 4, 1) := by decide +kernel
theorem dX8_wish_131 : decode cX8_wish 131 = .ok (.iadd, 1) := by decide +kernel
theorem dX8_wish_132 : decode cX8_wish 132 = .ok (.iload 5, 2) := by decide +kernel
theorem dX8_wish_134 : decode cX8_wish 134 = .ok (.iastore, 1) := by decide +kernel
theorem dX8_wish_135 : decode cX8_wish 135 = .ok (.aload_n 0, 1) := by decide +kernel
theorem dX8_wish_136 : decode cX8_wish 136 = .ok (.dup, 1) := by decide +kernel
theorem dX8_wish_137 : decode cX8_wish 137 = .ok (.getfield 237, 3) := by decide +kernel
theorem dX8_wish_140 : decode cX8_wish 140 = .ok (.iconst 1, 1) := by decide +kernel
theorem dX8_wish_141 : decode cX8_wish 141 = .ok (.iadd, 1) := by decide +kernel
theorem dX8_wish_142 : decode cX8_wish 142 = .ok (.putfield 237, 3) := by decide +kernel
theorem dX8_wish_145 : decode cX8_wish 145 = .ok (.aload_n 0, 1) := by decide +kernel
theorem dX8_wish_146 : decode cX8_wish 146 = .ok (.getfield 237, 3) := by decide +kernel
theorem dX8_wish_149 : decode cX8_wish 149 = .ok (.iconst 1, 1) := by decide +kernel
theorem dX8_wish_150 : decode cX8_wish 150 = .ok (.isub, 1) := by decide +kernel
theorem dX8_wish_151 : decode cX8_wish 151 = .ok (.ireturn, 1) := by decide +kernel
end
