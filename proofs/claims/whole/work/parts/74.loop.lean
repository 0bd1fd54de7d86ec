/-- one round of the law's loop, from the switch -/
theorem law_case {Y : Yc} (F : LF Y) {i : Int} (hi : 0 ≤ i) (hL : i + 7 ≤ yL Y) {w : W2} (hw : IX w.1 ∧ RM w.1 w.2) (k : ∀ a b : Wd, IX a ∧ RM a b → LW Y 1377 (Lv Y i) [] (a, b)) {v : Int} (h : 0 ≤ v ∧ v ≤ 31) : LW Y 33 (Lv Y i) [iv v] w := by
  rcases (show v = 0 ∨ v = 1 ∨ v = 2 ∨ v = 3 ∨ v = 4 ∨ v = 5 ∨ v = 6 ∨ v = 7 ∨ v = 8 ∨ v = 9 ∨ v = 10 ∨ v = 11 ∨ v = 12 ∨ v = 13 ∨ v = 14 ∨ v = 15 ∨ v = 16 ∨ v = 17 ∨ v = 18 ∨ v = 19 ∨ v = 20 ∨ v = 21 ∨ v = 22 ∨ v = 23 ∨ v = 24 ∨ v = 25 ∨ v = 26 ∨ v = 27 ∨ v = 28 ∨ v = 29 ∨ v = 30 ∨ v = 31 by omega) with hv | hv | hv | hv | hv | hv | hv | hv | hv | hv | hv | hv | hv | hv | hv | hv | hv | hv | hv | hv | hv | hv | hv | hv | hv | hv | hv | hv | hv | hv | hv | hv
  · exact lr_tsIn (off := 143) (tgt := 176) F 0 dL_law_33 hv (by decide) (by decide) rfl (by decide) (by decide) (op_0 F hi hL hw k)
  · exact lr_tsIn (off := 206) (tgt := 239) F 1 dL_law_33 hv (by decide) (by decide) rfl (by decide) (by decide) (op_1 F hi hL hw k)
  · exact lr_tsIn (off := 239) (tgt := 272) F 2 dL_law_33 hv (by decide) (by decide) rfl (by decide) (by decide) (op_2 F hi hL hw k)
  · exact lr_tsIn (off := 272) (tgt := 305) F 3 dL_law_33 hv (by decide) (by decide) rfl (by decide) (by decide) (op_3 F hi hL hw k)
  · exact lr_tsIn (off := 315) (tgt := 348) F 4 dL_law_33 hv (by decide) (by decide) rfl (by decide) (by decide) (op_4 F hi hL hw k)
  · exact lr_tsIn (off := 348) (tgt := 381) F 5 dL_law_33 hv (by decide) (by decide) rfl (by decide) (by decide) (op_5 F hi hL hw k)
  · exact lr_tsIn (off := 423) (tgt := 456) F 6 dL_law_33 hv (by decide) (by decide) rfl (by decide) (by decide) (op_6 F hi hL hw k)
  · exact lr_tsIn (off := 498) (tgt := 531) F 7 dL_law_33 hv (by decide) (by decide) rfl (by decide) (by decide) (op_7 F hi hL hw k)
  · exact lr_tsIn (off := 551) (tgt := 584) F 8 dL_law_33 hv (by decide) (by decide) rfl (by decide) (by decide) (op_8 F hi hL hw k)
  · exact lr_tsIn (off := 614) (tgt := 647) F 9 dL_law_33 hv (by decide) (by decide) rfl (by decide) (by decide) (op_9 F hi hL hw k)
  · exact lr_tsIn (off := 647) (tgt := 680) F 10 dL_law_33 hv (by decide) (by decide) rfl (by decide) (by decide) (op_10 F hi hL hw k)
  · exact lr_tsIn (off := 660) (tgt := 693) F 11 dL_law_33 hv (by decide) (by decide) rfl (by decide) (by decide) (op_11 F hi hL hw k)
  · exact lr_tsIn (off := 713) (tgt := 746) F 12 dL_law_33 hv (by decide) (by decide) rfl (by decide) (by decide) (op_12 F hi hL hw k)
  · exact lr_tsIn (off := 726) (tgt := 759) F 13 dL_law_33 hv (by decide) (by decide) rfl (by decide) (by decide) (op_13 F hi hL hw k)
  · rcases (show sx Y (i + 1) = 0 ∨ sx Y (i + 1) = 1 ∨ ¬ (sx Y (i + 1) = 0 ∨ sx Y (i + 1) = 1) by omega) with hs | hs | hs
    · exact lr_tsIn (off := 739) (tgt := 772) F 14 dL_law_33 hv (by decide) (by decide) rfl (by decide) (by decide) (op_14_0 F hi hL hw hs k)
    · exact lr_tsIn (off := 739) (tgt := 772) F 14 dL_law_33 hv (by decide) (by decide) rfl (by decide) (by decide) (op_14_1 F hi hL hw hs k)
    · exact lr_tsIn (off := 739) (tgt := 772) F 14 dL_law_33 hv (by decide) (by decide) rfl (by decide) (by decide) (op_14_n F hi hL hw hs k)
  · rcases (show sx Y (i + 1) = 0 ∨ sx Y (i + 1) = 1 ∨ ¬ (sx Y (i + 1) = 0 ∨ sx Y (i + 1) = 1) by omega) with hs | hs | hs
    · exact lr_tsIn (off := 762) (tgt := 795) F 15 dL_law_33 hv (by decide) (by decide) rfl (by decide) (by decide) (op_15_0 F hi hL hw hs k)
    · exact lr_tsIn (off := 762) (tgt := 795) F 15 dL_law_33 hv (by decide) (by decide) rfl (by decide) (by decide) (op_15_1 F hi hL hw hs k)
    · exact lr_tsIn (off := 762) (tgt := 795) F 15 dL_law_33 hv (by decide) (by decide) rfl (by decide) (by decide) (op_15_n F hi hL hw hs k)
  · exact lr_tsIn (off := 785) (tgt := 818) F 16 dL_law_33 hv (by decide) (by decide) rfl (by decide) (by decide) (op_16 F hi hL hw k)
  · exact lr_tsIn (off := 818) (tgt := 851) F 17 dL_law_33 hv (by decide) (by decide) rfl (by decide) (by decide) (op_17 F hi hL hw k)
  · exact lr_tsIn (off := 851) (tgt := 884) F 18 dL_law_33 hv (by decide) (by decide) rfl (by decide) (by decide) (op_18 F hi hL hw k)
  · exact lr_tsIn (off := 884) (tgt := 917) F 19 dL_law_33 hv (by decide) (by decide) rfl (by decide) (by decide) (op_19 F hi hL hw k)
  · exact lr_tsIn (off := 937) (tgt := 970) F 20 dL_law_33 hv (by decide) (by decide) rfl (by decide) (by decide) (op_20 F hi hL hw k)
  · exact lr_tsIn (off := 990) (tgt := 1023) F 21 dL_law_33 hv (by decide) (by decide) rfl (by decide) (by decide) (op_21 F hi hL hw k)
  · exact lr_tsIn (off := 1033) (tgt := 1066) F 22 dL_law_33 hv (by decide) (by decide) rfl (by decide) (by decide) (op_22 F hi hL hw k)
  · exact lr_tsIn (off := 1066) (tgt := 1099) F 23 dL_law_33 hv (by decide) (by decide) rfl (by decide) (by decide) (op_23 F hi hL hw k)
  · exact lr_tsIn (off := 1099) (tgt := 1132) F 24 dL_law_33 hv (by decide) (by decide) rfl (by decide) (by decide) (op_24 F hi hL hw k)
  · exact lr_tsIn (off := 1112) (tgt := 1145) F 25 dL_law_33 hv (by decide) (by decide) rfl (by decide) (by decide) (op_25 F hi hL hw k)
  · exact lr_tsIn (off := 1175) (tgt := 1208) F 26 dL_law_33 hv (by decide) (by decide) rfl (by decide) (by decide) (op_26 F hi hL hw k)
  · exact lr_tsIn (off := 1218) (tgt := 1251) F 27 dL_law_33 hv (by decide) (by decide) rfl (by decide) (by decide) (op_27 F hi hL hw k)
  · exact lr_tsIn (off := 1251) (tgt := 1284) F 28 dL_law_33 hv (by decide) (by decide) rfl (by decide) (by decide) (op_28 F hi hL hw k)
  · exact lr_tsIn (off := 1284) (tgt := 1317) F 29 dL_law_33 hv (by decide) (by decide) rfl (by decide) (by decide) (op_29 F hi hL hw k)
  · exact lr_tsIn (off := 1307) (tgt := 1340) F 30 dL_law_33 hv (by decide) (by decide) rfl (by decide) (by decide) (op_30 F hi hL hw k)
  · exact lr_tsIn (off := 1330) (tgt := 1363) F 31 dL_law_33 hv (by decide) (by decide) rfl (by decide) (by decide) (op_31 F hi hL hw k)
theorem law_step {Y : Yc} (F : LF Y) {i : Int} (hi : 0 ≤ i) (hb : i ≤ 3600) {w : W2} (hw : IX w.1 ∧ RM w.1 w.2) (k : i + 7 ≤ yL Y → ∀ a b : Wd, IX a ∧ RM a b → LW Y 18 (Lv Y (i + 7)) [] (a, b)) : LW Y 18 (Lv Y i) [] w := by
  have hLy : yL Y ≤ 3584 := F.2.2.2.2.2.2.2.2.2.2.2.2
  refine lr_iload_n F dL_law_18 rfl ?_
  refine lr_aload_n F dL_law_19 rfl ?_
  refine lr_slen F dL_law_20 ?_
  refine lr_bipush F dL_law_21 (by decide) ?_
  refine lr_isub F dL_law_23 ?_
  refine lr_icmp_gt (tgt := 1383) F dL_law_24 (by decide) (fun c => ?_) (fun c => ?_) (by omega) (by omega)
  · refine lr_iconst F dL_law_1383 ?_
    have e : iv 1 = .int 1 := congrArg Value.int (by decide)
    rw [e]
    exact lr_end F dL_law_1384
  · refine lr_aload_n F dL_law_27 rfl ?_
    refine lr_iload_n F dL_law_28 rfl ?_
    refine lr_sld F dL_law_29 hi (by omega) ?_
    refine lr_bipush F dL_law_30 (by decide) ?_
    refine lr_iand F dL_law_32 ?_
    obtain ⟨v, hv, e⟩ := and31 (Int32.ofInt (sx Y i))
    refine lr_top F (z := v) e ?_
    refine law_case F hi (by omega) hw (fun a b h => ?_) hv
    refine lr_iinc F dL_law_1377 rfl (by decide) rfl ?_
    refine lr_goto (tgt := 18) F dL_law_1380 (by decide) ?_
    exact k (by omega) a b h
theorem law_loop {Y : Yc} (F : LF Y) : ∀ (n : Nat) (i : Int), 0 ≤ i → i ≤ 3600 → (yL Y : Int) - i < n → ∀ w : W2, IX w.1 ∧ RM w.1 w.2 → LW Y 18 (Lv Y i) [] w
  | 0, i, hi, hb, hn, w, hw => law_step F hi hb hw (fun h => absurd hn (by omega))
  | n + 1, i, hi, hb, hn, w, hw => law_step F hi hb hw (fun h a b hab => law_loop F n (i + 7) (by omega) (by have := F.2.2.2.2.2.2.2.2.2.2.2.2; omega) (by omega) (a, b) hab)
