def pG (R : Int → Wd → Prop) : Option Value → Wd → Prop := fun v u => ∃ r : Int, v = some (lq r) ∧ R r u
theorem pG_of {w : Wd} {r : Int} {R : Int → Wd → Prop} (h : R r w) : pG R (some (lq r)) w := ⟨r, rfl, h⟩
section JG
variable {G : Gc} {X : Xc} {own : String} {cc : ByteArray} {nL d : Nat} {ret : Option FieldType} {post : Option Value → Wd → Prop} {pc : Nat} {lv : List (Option Value)} {st rest : List Value} {w : Wd}
theorem jr_vG (F : Fx G X own cc nL d ret) {i k ci d' nL' n : Nat} {y : MethodName} {b : ByteArray} {ret' : Option FieldType} {fs : List Nat} {As : List Value} {q : vw_C} {R : Int → Wd → Prop} (hd : decode cc pc = .ok (.invokevirtual i, 3)) (L : Cv own i y b nL' ret' n)
    (hc : Sp G d' y b nL' ret' (.ref (ga G k) :: As) w (pG R)) (hk : k < gn G) (hs : gS G k = .inr (ci, fs)) (hq : vwCl[ci]? = some q) (hqc : q.1 = y.cls) (hn : As.length = n) (hdd : d' + 1 ≤ d) (hml : nL' ≤ 21) (hst : st = As.reverse ++ .ref (ga G k) :: rest) (hcat : (rest.map fun v => v.category).sum ≤ 8)
    (kk : ∀ (r : Int) (u : Wd), R r u → Jw G X post (pc + 3) lv (lq r :: rest) u) : Jw G X post pc lv st w := jr_callV F hd L hc hk hs hq hqc hn hdd hml hst hcat (fun v u h => by obtain ⟨r, rfl, h⟩ := h; exact kk r u h)
end JG
theorem texw_a {w : Wd} {s : Int} (hs : s = 0 ∨ s = 1) (h : ¬ txw w) : texw w s = -103 := by unfold texw; rw [if_pos hs, if_neg h]
theorem texw_b {w : Wd} {s : Int} (hs : s = 0 ∨ s = 1) (h : txw w) (g : 6 ≤ txn w s) : texw w s = -104 := by unfold texw; rw [if_pos hs, if_pos h, if_pos g]
theorem texw_c {w : Wd} {s : Int} (hs : s = 0 ∨ s = 1) (h : txw w) (g : ¬ 6 ≤ txn w s) : texw w s = txn w s + 1 := by unfold texw; rw [if_pos hs, if_pos h, if_neg g]
theorem texW_n {w : Wd} {s : Int} (hs : s = 0 ∨ s = 1) (h : texw w s < 0) : texW w s = faw w := by unfold texW; rw [if_pos hs, accW_n h]
theorem texW_y {w : Wd} {s : Int} (hs : s = 0 ∨ s = 1) (h : 0 ≤ texw w s) : texW w s = up (lrn (faw w) s) 18 1 0 := by unfold texW; rw [if_pos hs, accW_y h]

set_option maxRecDepth 100000 in
set_option maxHeartbeats 4000000 in
theorem c_X7_text_0 {B : Bs} {w : Wd}  (hp : 0 ≤ w 18 1 ∧ w 18 1 ≤ 60) (ht : 0 ≤ w 11 2 ∧ w 11 2 ≤ 6) : Sp (GX B) 4 yX7_text cX7_text 3 (Option.some FieldType.int) [.ref (ga (GX B) (0)), iv (0)] w (pE (fun x u => x = texw w 0 ∧ u = texW w 0)) := by
  refine Sp.of (by decide) (Nat.le_of_ble_eq_true rfl) (fun X F => ?_)
  show Jw (GX B) X _ 0 [some (.ref (ga (GX B) (0))), some (iv (0))] [] w
  refine jr_iload_n F dX7_text_0 rfl ?_
  refine jr_sI F dX7_text_1 cs_X7_161 (c_X7_isSchool (by omega)) rfl (Nat.le_of_ble_eq_true rfl) (Nat.le_of_ble_eq_true rfl) rfl (Nat.le_of_ble_eq_true rfl) ?_
  refine jr_ifne_b (tgt := 10) F dX7_text_4 (by decide) (fun c4 => ?_) (fun c4 => ?_)
  · skip
    refine jr_aload_n F dX7_text_10 rfl ?_
    refine jr_getR (t := 18) F dX7_text_11 fg_X7_48 (Nat.le_of_ble_eq_true rfl) rfl rfl ?_
    refine jr_vE F dX7_text_14 cv_X7_164 (c_X2_isText (by omega)) (Nat.le_of_ble_eq_true rfl) rfl rfl rfl rfl (Nat.le_of_ble_eq_true rfl) (Nat.le_of_ble_eq_true rfl) rfl (Nat.le_of_ble_eq_true rfl) (fun r14 w14 h14 => ?_)
    obtain ⟨h14a, e14⟩ := h14
    rw [h14a]
    have z1 : w14 11 2 = w 11 2 := by rw [e14]; rfl
    have z2 : w14 18 1 = w 18 1 := by rw [e14]; rfl
    have tn : txn w 0 = w 11 2 := rfl
    refine jr_ifne_b (tgt := 23) F dX7_text_17 (by decide) (fun c17 => ?_) (fun c17 => ?_)
    · skip
      refine jr_aload_n F dX7_text_23 rfl ?_
      refine jr_iload_n F dX7_text_24 rfl ?_
      refine jr_vR F dX7_text_25 cv_X7_167 (c_X7_schoolOf_0) (Nat.le_of_ble_eq_true rfl) rfl rfl rfl rfl (Nat.le_of_ble_eq_true rfl) (Nat.le_of_ble_eq_true rfl) rfl (Nat.le_of_ble_eq_true rfl) ?_
      refine jr_vI F dX7_text_28 cv_X7_171 (c_X4_isFull_11) (Nat.le_of_ble_eq_true rfl) rfl rfl rfl rfl (Nat.le_of_ble_eq_true rfl) (Nat.le_of_ble_eq_true rfl) rfl (Nat.le_of_ble_eq_true rfl) ?_
      refine jr_ifeq_b (tgt := 37) F dX7_text_31 (by decide) (fun c31 => ?_) (fun c31 => ?_)
      · skip
        refine jr_aload_n F dX7_text_37 rfl ?_
        refine jr_iload_n F dX7_text_38 rfl ?_
        refine jr_vR F dX7_text_39 cv_X7_167 (c_X7_schoolOf_0) (Nat.le_of_ble_eq_true rfl) rfl rfl rfl rfl (Nat.le_of_ble_eq_true rfl) (Nat.le_of_ble_eq_true rfl) rfl (Nat.le_of_ble_eq_true rfl) ?_
        refine jr_aload_n F dX7_text_42 rfl ?_
        refine jr_getR (t := 18) F dX7_text_43 fg_X7_48 (Nat.le_of_ble_eq_true rfl) rfl rfl ?_
        refine jr_vIx F dX7_text_46 cv_X7_172 (c_X4_learn_11 (by omega) (by omega)) (Nat.le_of_ble_eq_true rfl) rfl rfl rfl rfl (Nat.le_of_ble_eq_true rfl) (Nat.le_of_ble_eq_true rfl) rfl (Nat.le_of_ble_eq_true rfl) (fun w46 e46 => ?_)
        refine jr_istore_n F dX7_text_49 (Nat.le_of_ble_eq_true rfl) rfl ?_
        refine jr_aload_n F dX7_text_50 rfl ?_
        refine jr_getR (t := 18) F dX7_text_51 fg_X7_48 (Nat.le_of_ble_eq_true rfl) rfl rfl ?_
        refine jr_vIx F dX7_text_54 cv_X7_155 (c_X2_wipe) (Nat.le_of_ble_eq_true rfl) rfl rfl rfl rfl (Nat.le_of_ble_eq_true rfl) (Nat.le_of_ble_eq_true rfl) rfl (Nat.le_of_ble_eq_true rfl) (fun w54 e54 => ?_)
        refine jr_pop F dX7_text_57 rfl ?_
        refine jr_iload_n F dX7_text_58 rfl ?_
        exact jr_iret F dX7_text_59 (pE_of ⟨by rw [texw_c (show (0 : Int) = 0 ∨ (0 : Int) = 1 by omega) c17 (by omega)]; omega, by rw [texW_y (show (0 : Int) = 0 ∨ (0 : Int) = 1 by omega) (by rw [texw_c (show (0 : Int) = 0 ∨ (0 : Int) = 1 by omega) c17 (by omega)]; omega), e54, e46, e14]; rfl⟩)
      · skip
        refine jr_bipush F dX7_text_34 (by decide) ?_
        exact jr_iret F dX7_text_36 (pE_of ⟨(texw_b (show (0 : Int) = 0 ∨ (0 : Int) = 1 by omega) c17 (by omega)).symm, by rw [texW_n (show (0 : Int) = 0 ∨ (0 : Int) = 1 by omega) (by rw [texw_b (show (0 : Int) = 0 ∨ (0 : Int) = 1 by omega) c17 (by omega)]; omega)]; exact e14⟩)
    · skip
      refine jr_bipush F dX7_text_20 (by decide) ?_
      exact jr_iret F dX7_text_22 (pE_of ⟨(texw_a (show (0 : Int) = 0 ∨ (0 : Int) = 1 by omega) c17).symm, by rw [texW_n (show (0 : Int) = 0 ∨ (0 : Int) = 1 by omega) (by rw [texw_a (show (0 : Int) = 0 ∨ (0 : Int) = 1 by omega) c17]; omega)]; exact e14⟩)
  · exfalso; omega

set_option maxRecDepth 100000 in
set_option maxHeartbeats 4000000 in
theorem c_X7_strike_0 {B : Bs} {w : Wd}  (ht : 0 ≤ w 11 2 ∧ w 11 2 ≤ 6) : Sp (GX B) 2 yX7_strike cX7_strike 2 (Option.some FieldType.int) [.ref (ga (GX B) (0)), iv (0)] w (pI (accW (strw w 0) (strW w 0) w) (strw w 0)) := by
  refine Sp.of (by decide) (Nat.le_of_ble_eq_true rfl) (fun X F => ?_)
  have tn : txn w 0 = w 11 2 := rfl
  show Jw (GX B) X _ 0 [some (.ref (ga (GX B) (0))), some (iv (0))] [] w
  refine jr_iload_n F dX7_strike_0 rfl ?_
  refine jr_sI F dX7_strike_1 cs_X7_161 (c_X7_isSchool (by omega)) rfl (Nat.le_of_ble_eq_true rfl) (Nat.le_of_ble_eq_true rfl) rfl (Nat.le_of_ble_eq_true rfl) ?_
  refine jr_ifne_b (tgt := 10) F dX7_strike_4 (by decide) (fun c4 => ?_) (fun c4 => ?_)
  · skip
    refine jr_aload_n F dX7_strike_10 rfl ?_
    refine jr_iload_n F dX7_strike_11 rfl ?_
    refine jr_vR F dX7_strike_12 cv_X7_167 (c_X7_schoolOf_0) (Nat.le_of_ble_eq_true rfl) rfl rfl rfl rfl (Nat.le_of_ble_eq_true rfl) (Nat.le_of_ble_eq_true rfl) rfl (Nat.le_of_ble_eq_true rfl) ?_
    refine jr_vI F dX7_strike_15 cv_X7_176 (c_X4_size_11) (Nat.le_of_ble_eq_true rfl) rfl rfl rfl rfl (Nat.le_of_ble_eq_true rfl) (Nat.le_of_ble_eq_true rfl) rfl (Nat.le_of_ble_eq_true rfl) ?_
    refine jr_if_le (tgt := 32) F dX7_strike_18 (by decide) (fun c18 => ?_) (fun c18 => ?_) (by omega)
    · skip
      refine jr_bipush F dX7_strike_32 (by decide) ?_
      first | exact jr_iret F dX7_strike_34 (pA_n (by unfold strw; (repeat' split) <;> omega) (by omega) rfl) | exact jr_iret F dX7_strike_34 (pA_y (by unfold strw; (repeat' split) <;> omega) (by omega) rfl)
    · skip
      refine jr_aload_n F dX7_strike_21 rfl ?_
      refine jr_iload_n F dX7_strike_22 rfl ?_
      refine jr_vR F dX7_strike_23 cv_X7_167 (c_X7_schoolOf_0) (Nat.le_of_ble_eq_true rfl) rfl rfl rfl rfl (Nat.le_of_ble_eq_true rfl) (Nat.le_of_ble_eq_true rfl) rfl (Nat.le_of_ble_eq_true rfl) ?_
      refine jr_vIx F dX7_strike_26 cv_X7_177 (c_X4_unlearn_11 (by omega)) (Nat.le_of_ble_eq_true rfl) rfl rfl rfl rfl (Nat.le_of_ble_eq_true rfl) (Nat.le_of_ble_eq_true rfl) rfl (Nat.le_of_ble_eq_true rfl) (fun w26 e26 => ?_)
      refine jr_goto (tgt := 34) F dX7_strike_29 (by decide) ?_
      first | exact jr_iret F dX7_strike_34 (pA_n (by unfold strw; (repeat' split) <;> omega) (by omega) (by subst e26; first | rfl | omega)) | exact jr_iret F dX7_strike_34 (pA_y (by unfold strw; (repeat' split) <;> omega) (by omega) (by subst e26; first | rfl | omega))
  · exfalso; omega

set_option maxRecDepth 100000 in
set_option maxHeartbeats 4000000 in
theorem c_X7_text_1 {B : Bs} {w : Wd}  (hp : 0 ≤ w 18 1 ∧ w 18 1 ≤ 60) (ht : 0 ≤ w 14 2 ∧ w 14 2 ≤ 6) : Sp (GX B) 4 yX7_text cX7_text 3 (Option.some FieldType.int) [.ref (ga (GX B) (0)), iv (1)] w (pE (fun x u => x = texw w 1 ∧ u = texW w 1)) := by
  refine Sp.of (by decide) (Nat.le_of_ble_eq_true rfl) (fun X F => ?_)
  show Jw (GX B) X _ 0 [some (.ref (ga (GX B) (0))), some (iv (1))] [] w
  refine jr_iload_n F dX7_text_0 rfl ?_
  refine jr_sI F dX7_text_1 cs_X7_161 (c_X7_isSchool (by omega)) rfl (Nat.le_of_ble_eq_true rfl) (Nat.le_of_ble_eq_true rfl) rfl (Nat.le_of_ble_eq_true rfl) ?_
  refine jr_ifne_b (tgt := 10) F dX7_text_4 (by decide) (fun c4 => ?_) (fun c4 => ?_)
  · skip
    refine jr_aload_n F dX7_text_10 rfl ?_
    refine jr_getR (t := 18) F dX7_text_11 fg_X7_48 (Nat.le_of_ble_eq_true rfl) rfl rfl ?_
    refine jr_vE F dX7_text_14 cv_X7_164 (c_X2_isText (by omega)) (Nat.le_of_ble_eq_true rfl) rfl rfl rfl rfl (Nat.le_of_ble_eq_true rfl) (Nat.le_of_ble_eq_true rfl) rfl (Nat.le_of_ble_eq_true rfl) (fun r14 w14 h14 => ?_)
    obtain ⟨h14a, e14⟩ := h14
    rw [h14a]
    have z1 : w14 14 2 = w 14 2 := by rw [e14]; rfl
    have z2 : w14 18 1 = w 18 1 := by rw [e14]; rfl
    have tn : txn w 1 = w 14 2 := rfl
    refine jr_ifne_b (tgt := 23) F dX7_text_17 (by decide) (fun c17 => ?_) (fun c17 => ?_)
    · skip
      refine jr_aload_n F dX7_text_23 rfl ?_
      refine jr_iload_n F dX7_text_24 rfl ?_
      refine jr_vR F dX7_text_25 cv_X7_167 (c_X7_schoolOf_1) (Nat.le_of_ble_eq_true rfl) rfl rfl rfl rfl (Nat.le_of_ble_eq_true rfl) (Nat.le_of_ble_eq_true rfl) rfl (Nat.le_of_ble_eq_true rfl) ?_
      refine jr_vI F dX7_text_28 cv_X7_171 (c_X4_isFull_14) (Nat.le_of_ble_eq_true rfl) rfl rfl rfl rfl (Nat.le_of_ble_eq_true rfl) (Nat.le_of_ble_eq_true rfl) rfl (Nat.le_of_ble_eq_true rfl) ?_
      refine jr_ifeq_b (tgt := 37) F dX7_text_31 (by decide) (fun c31 => ?_) (fun c31 => ?_)
      · skip
        refine jr_aload_n F dX7_text_37 rfl ?_
        refine jr_iload_n F dX7_text_38 rfl ?_
        refine jr_vR F dX7_text_39 cv_X7_167 (c_X7_schoolOf_1) (Nat.le_of_ble_eq_true rfl) rfl rfl rfl rfl (Nat.le_of_ble_eq_true rfl) (Nat.le_of_ble_eq_true rfl) rfl (Nat.le_of_ble_eq_true rfl) ?_
        refine jr_aload_n F dX7_text_42 rfl ?_
        refine jr_getR (t := 18) F dX7_text_43 fg_X7_48 (Nat.le_of_ble_eq_true rfl) rfl rfl ?_
        refine jr_vIx F dX7_text_46 cv_X7_172 (c_X4_learn_14 (by omega) (by omega)) (Nat.le_of_ble_eq_true rfl) rfl rfl rfl rfl (Nat.le_of_ble_eq_true rfl) (Nat.le_of_ble_eq_true rfl) rfl (Nat.le_of_ble_eq_true rfl) (fun w46 e46 => ?_)
        refine jr_istore_n F dX7_text_49 (Nat.le_of_ble_eq_true rfl) rfl ?_
        refine jr_aload_n F dX7_text_50 rfl ?_
        refine jr_getR (t := 18) F dX7_text_51 fg_X7_48 (Nat.le_of_ble_eq_true rfl) rfl rfl ?_
        refine jr_vIx F dX7_text_54 cv_X7_155 (c_X2_wipe) (Nat.le_of_ble_eq_true rfl) rfl rfl rfl rfl (Nat.le_of_ble_eq_true rfl) (Nat.le_of_ble_eq_true rfl) rfl (Nat.le_of_ble_eq_true rfl) (fun w54 e54 => ?_)
        refine jr_pop F dX7_text_57 rfl ?_
        refine jr_iload_n F dX7_text_58 rfl ?_
        exact jr_iret F dX7_text_59 (pE_of ⟨by rw [texw_c (show (1 : Int) = 0 ∨ (1 : Int) = 1 by omega) c17 (by omega)]; omega, by rw [texW_y (show (1 : Int) = 0 ∨ (1 : Int) = 1 by omega) (by rw [texw_c (show (1 : Int) = 0 ∨ (1 : Int) = 1 by omega) c17 (by omega)]; omega), e54, e46, e14]; rfl⟩)
      · skip
        refine jr_bipush F dX7_text_34 (by decide) ?_
        exact jr_iret F dX7_text_36 (pE_of ⟨(texw_b (show (1 : Int) = 0 ∨ (1 : Int) = 1 by omega) c17 (by omega)).symm, by rw [texW_n (show (1 : Int) = 0 ∨ (1 : Int) = 1 by omega) (by rw [texw_b (show (1 : Int) = 0 ∨ (1 : Int) = 1 by omega) c17 (by omega)]; omega)]; exact e14⟩)
    · skip
      refine jr_bipush F dX7_text_20 (by decide) ?_
      exact jr_iret F dX7_text_22 (pE_of ⟨(texw_a (show (1 : Int) = 0 ∨ (1 : Int) = 1 by omega) c17).symm, by rw [texW_n (show (1 : Int) = 0 ∨ (1 : Int) = 1 by omega) (by rw [texw_a (show (1 : Int) = 0 ∨ (1 : Int) = 1 by omega) c17]; omega)]; exact e14⟩)
  · exfalso; omega

set_option maxRecDepth 100000 in
set_option maxHeartbeats 4000000 in
theorem c_X7_strike_1 {B : Bs} {w : Wd}  (ht : 0 ≤ w 14 2 ∧ w 14 2 ≤ 6) : Sp (GX B) 2 yX7_strike cX7_strike 2 (Option.some FieldType.int) [.ref (ga (GX B) (0)), iv (1)] w (pI (accW (strw w 1) (strW w 1) w) (strw w 1)) := by
  refine Sp.of (by decide) (Nat.le_of_ble_eq_true rfl) (fun X F => ?_)
  have tn : txn w 1 = w 14 2 := rfl
  show Jw (GX B) X _ 0 [some (.ref (ga (GX B) (0))), some (iv (1))] [] w
  refine jr_iload_n F dX7_strike_0 rfl ?_
  refine jr_sI F dX7_strike_1 cs_X7_161 (c_X7_isSchool (by omega)) rfl (Nat.le_of_ble_eq_true rfl) (Nat.le_of_ble_eq_true rfl) rfl (Nat.le_of_ble_eq_true rfl) ?_
  refine jr_ifne_b (tgt := 10) F dX7_strike_4 (by decide) (fun c4 => ?_) (fun c4 => ?_)
  · skip
    refine jr_aload_n F dX7_strike_10 rfl ?_
    refine jr_iload_n F dX7_strike_11 rfl ?_
    refine jr_vR F dX7_strike_12 cv_X7_167 (c_X7_schoolOf_1) (Nat.le_of_ble_eq_true rfl) rfl rfl rfl rfl (Nat.le_of_ble_eq_true rfl) (Nat.le_of_ble_eq_true rfl) rfl (Nat.le_of_ble_eq_true rfl) ?_
    refine jr_vI F dX7_strike_15 cv_X7_176 (c_X4_size_14) (Nat.le_of_ble_eq_true rfl) rfl rfl rfl rfl (Nat.le_of_ble_eq_true rfl) (Nat.le_of_ble_eq_true rfl) rfl (Nat.le_of_ble_eq_true rfl) ?_
    refine jr_if_le (tgt := 32) F dX7_strike_18 (by decide) (fun c18 => ?_) (fun c18 => ?_) (by omega)
    · skip
      refine jr_bipush F dX7_strike_32 (by decide) ?_
      first | exact jr_iret F dX7_strike_34 (pA_n (by unfold strw; (repeat' split) <;> omega) (by omega) rfl) | exact jr_iret F dX7_strike_34 (pA_y (by unfold strw; (repeat' split) <;> omega) (by omega) rfl)
    · skip
      refine jr_aload_n F dX7_strike_21 rfl ?_
      refine jr_iload_n F dX7_strike_22 rfl ?_
      refine jr_vR F dX7_strike_23 cv_X7_167 (c_X7_schoolOf_1) (Nat.le_of_ble_eq_true rfl) rfl rfl rfl rfl (Nat.le_of_ble_eq_true rfl) (Nat.le_of_ble_eq_true rfl) rfl (Nat.le_of_ble_eq_true rfl) ?_
      refine jr_vIx F dX7_strike_26 cv_X7_177 (c_X4_unlearn_14 (by omega)) (Nat.le_of_ble_eq_true rfl) rfl rfl rfl rfl (Nat.le_of_ble_eq_true rfl) (Nat.le_of_ble_eq_true rfl) rfl (Nat.le_of_ble_eq_true rfl) (fun w26 e26 => ?_)
      refine jr_goto (tgt := 34) F dX7_strike_29 (by decide) ?_
      first | exact jr_iret F dX7_strike_34 (pA_n (by unfold strw; (repeat' split) <;> omega) (by omega) (by subst e26; first | rfl | omega)) | exact jr_iret F dX7_strike_34 (pA_y (by unfold strw; (repeat' split) <;> omega) (by omega) (by subst e26; first | rfl | omega))
  · exfalso; omega

set_option maxRecDepth 100000 in
set_option maxHeartbeats 4000000 in
theorem c_X7_text_n {B : Bs} {w : Wd} {s : Int} (hs : inR s) (hn : ¬ (s = 0 ∨ s = 1)) : Sp (GX B) 4 yX7_text cX7_text 3 (Option.some FieldType.int) [.ref (ga (GX B) (0)), iv (s)] w (pE (fun x u => x = texw w s ∧ u = texW w s)) := by
  refine Sp.of (by decide) (Nat.le_of_ble_eq_true rfl) (fun X F => ?_)
  show Jw (GX B) X _ 0 [some (.ref (ga (GX B) (0))), some (iv (s))] [] w
  refine jr_iload_n F dX7_text_0 rfl ?_
  refine jr_sI F dX7_text_1 cs_X7_161 (c_X7_isSchool (by omega)) rfl (Nat.le_of_ble_eq_true rfl) (Nat.le_of_ble_eq_true rfl) rfl (Nat.le_of_ble_eq_true rfl) ?_
  refine jr_ifne_b (tgt := 10) F dX7_text_4 (by decide) (fun c4 => ?_) (fun c4 => ?_)
  · exact absurd c4 hn
  · skip
    refine jr_bipush F dX7_text_7 (by decide) ?_
    exact jr_iret F dX7_text_9 (pE_of ⟨by unfold texw; rw [if_neg hn], by unfold texW; rw [if_neg hn]⟩)

set_option maxRecDepth 100000 in
set_option maxHeartbeats 4000000 in
theorem c_X7_strike_n {B : Bs} {w : Wd} {s : Int} (hs : inR s) (hn : ¬ (s = 0 ∨ s = 1)) : Sp (GX B) 2 yX7_strike cX7_strike 2 (Option.some FieldType.int) [.ref (ga (GX B) (0)), iv (s)] w (pI (accW (strw w s) (strW w s) w) (strw w s)) := by
  refine Sp.of (by decide) (Nat.le_of_ble_eq_true rfl) (fun X F => ?_)
  show Jw (GX B) X _ 0 [some (.ref (ga (GX B) (0))), some (iv (s))] [] w
  refine jr_iload_n F dX7_strike_0 rfl ?_
  refine jr_sI F dX7_strike_1 cs_X7_161 (c_X7_isSchool (by omega)) rfl (Nat.le_of_ble_eq_true rfl) (Nat.le_of_ble_eq_true rfl) rfl (Nat.le_of_ble_eq_true rfl) ?_
  refine jr_ifne_b (tgt := 10) F dX7_strike_4 (by decide) (fun c4 => ?_) (fun c4 => ?_)
  · exact absurd c4 hn
  · skip
    refine jr_bipush F dX7_strike_7 (by decide) ?_
    exact jr_iret F dX7_strike_9 (pA_n (by unfold strw; rw [if_neg hn]) (by omega) rfl)

set_option maxRecDepth 100000 in
set_option maxHeartbeats 4000000 in
theorem c_X7_count {B : Bs} {w : Wd} {k : Int} (hk : inR k) : Sp (GX B) 1 yX7_count cX7_count 2 (Option.some FieldType.int) [.ref (ga (GX B) (0)), iv (k)] w (pI w (couw w k)) := by
  refine Sp.of (by decide) (Nat.le_of_ble_eq_true rfl) (fun X F => ?_)
  show Jw (GX B) X _ 0 [some (.ref (ga (GX B) (0))), some (iv (k))] [] w
  refine jr_iload_n F dX7_count_0 rfl ?_
  rcases (show k = 0 ∨ k = 1 ∨ k = 2 ∨ k = 3 ∨ k = 4 ∨ k = 5 ∨ k = 6 ∨ (k < 0 ∨ 6 < k) by omega) with c1 | c1 | c1 | c1 | c1 | c1 | c1 | c1
  · refine jr_tsIn (tgt := 44) F (0) dX7_count_1 c1 (by omega) (by omega) rfl (by decide) (by omega) ?_
    refine jr_aload_n F dX7_count_44 rfl ?_
    refine jr_getR (t := 1) F dX7_count_45 fg_X7_10 (Nat.le_of_ble_eq_true rfl) rfl rfl ?_
    refine jr_vI F dX7_count_48 cv_X7_227 (c_X3_size) (Nat.le_of_ble_eq_true rfl) rfl rfl rfl rfl (Nat.le_of_ble_eq_true rfl) (Nat.le_of_ble_eq_true rfl) rfl (Nat.le_of_ble_eq_true rfl) ?_
    exact jr_iret F dX7_count_51 (pI_of (by unfold couw; (repeat' split) <;> first | rfl | omega) rfl)
  · refine jr_tsIn (tgt := 52) F (1) dX7_count_1 c1 (by omega) (by omega) rfl (by decide) (by omega) ?_
    refine jr_aload_n F dX7_count_52 rfl ?_
    refine jr_getR (t := 5) F dX7_count_53 fg_X7_21 (Nat.le_of_ble_eq_true rfl) rfl rfl ?_
    refine jr_vI F dX7_count_56 cv_X7_139 (c_X6_size_5) (Nat.le_of_ble_eq_true rfl) rfl rfl rfl rfl (Nat.le_of_ble_eq_true rfl) (Nat.le_of_ble_eq_true rfl) rfl (Nat.le_of_ble_eq_true rfl) ?_
    exact jr_iret F dX7_count_59 (pI_of (by unfold couw; (repeat' split) <;> first | rfl | omega) rfl)
  · refine jr_tsIn (tgt := 60) F (2) dX7_count_1 c1 (by omega) (by omega) rfl (by decide) (by omega) ?_
    refine jr_aload_n F dX7_count_60 rfl ?_
    refine jr_getR (t := 11) F dX7_count_61 fg_X7_31 (Nat.le_of_ble_eq_true rfl) rfl rfl ?_
    refine jr_vI F dX7_count_64 cv_X7_176 (c_X4_size_11) (Nat.le_of_ble_eq_true rfl) rfl rfl rfl rfl (Nat.le_of_ble_eq_true rfl) (Nat.le_of_ble_eq_true rfl) rfl (Nat.le_of_ble_eq_true rfl) ?_
    exact jr_iret F dX7_count_67 (pI_of (by unfold couw; (repeat' split) <;> first | rfl | omega) rfl)
  · refine jr_tsIn (tgt := 68) F (3) dX7_count_1 c1 (by omega) (by omega) rfl (by decide) (by omega) ?_
    refine jr_aload_n F dX7_count_68 rfl ?_
    refine jr_getR (t := 14) F dX7_count_69 fg_X7_35 (Nat.le_of_ble_eq_true rfl) rfl rfl ?_
    refine jr_vI F dX7_count_72 cv_X7_176 (c_X4_size_14) (Nat.le_of_ble_eq_true rfl) rfl rfl rfl rfl (Nat.le_of_ble_eq_true rfl) (Nat.le_of_ble_eq_true rfl) rfl (Nat.le_of_ble_eq_true rfl) ?_
    exact jr_iret F dX7_count_75 (pI_of (by unfold couw; (repeat' split) <;> first | rfl | omega) rfl)
  · refine jr_tsIn (tgt := 76) F (4) dX7_count_1 c1 (by omega) (by omega) rfl (by decide) (by omega) ?_
    refine jr_aload_n F dX7_count_76 rfl ?_
    refine jr_getR (t := 18) F dX7_count_77 fg_X7_48 (Nat.le_of_ble_eq_true rfl) rfl rfl ?_
    refine jr_vI F dX7_count_80 cv_X7_150 (c_X2_size) (Nat.le_of_ble_eq_true rfl) rfl rfl rfl rfl (Nat.le_of_ble_eq_true rfl) (Nat.le_of_ble_eq_true rfl) rfl (Nat.le_of_ble_eq_true rfl) ?_
    exact jr_iret F dX7_count_83 (pI_of (by unfold couw; (repeat' split) <;> first | rfl | omega) rfl)
  · refine jr_tsIn (tgt := 84) F (5) dX7_count_1 c1 (by omega) (by omega) rfl (by decide) (by omega) ?_
    refine jr_aload_n F dX7_count_84 rfl ?_
    refine jr_getR (t := 8) F dX7_count_85 fg_X7_25 (Nat.le_of_ble_eq_true rfl) rfl rfl ?_
    refine jr_vI F dX7_count_88 cv_X7_139 (c_X6_size_8) (Nat.le_of_ble_eq_true rfl) rfl rfl rfl rfl (Nat.le_of_ble_eq_true rfl) (Nat.le_of_ble_eq_true rfl) rfl (Nat.le_of_ble_eq_true rfl) ?_
    exact jr_iret F dX7_count_91 (pI_of (by unfold couw; (repeat' split) <;> first | rfl | omega) rfl)
  · refine jr_tsIn (tgt := 92) F (6) dX7_count_1 c1 (by omega) (by omega) rfl (by decide) (by omega) ?_
    refine jr_aload_n F dX7_count_92 rfl ?_
    refine jr_getIx F (w 0 8) dX7_count_93 fg_X7_61 (Nat.le_of_ble_eq_true rfl) rfl rfl rfl (fun q93 => ?_)
    exact jr_iret F dX7_count_96 (pI_of (by unfold couw; (repeat' split) <;> first | rfl | omega) rfl)
  · refine jr_tsOut (tgt := 97) F dX7_count_1 c1 (by decide) (by omega) ?_
    refine jr_bipush F dX7_count_97 (by decide) ?_
    exact jr_iret F dX7_count_99 (pI_of (by unfold couw; (repeat' split) <;> first | rfl | omega) rfl)

theorem e17_td {w u : Wd} (h : e17 w u) : td u = td w := by funext r; unfold td; rw [e17_rd h (by decide)]
theorem e17_fit {w u : Wd} (h : e17 w u) : fitw u = fitw w := by funext p c z; unfold fitw; rw [cell_fa (h 2 (by decide)), cell_lea (h 2 (by decide)), cell_mos (h 2 (by decide))]
theorem e17_hold {w u : Wd} (h : e17 w u) : holdw u = holdw w := by funext t; unfold holdw latw; rw [e17_td h, cell_tfa (h 6 (by decide)), cell_beg (h 6 (by decide)) (h 7 (by decide))]
/-- a reign that does not come behind the one ahead as told; a believed tie that does not hold -/
def jbR (w : Wd) (s r : Int) : Prop := ¬ fa w r 5 = -1 ∧ ¬ fitw w (fa w r 5) (cntw w s (fa w r 5)) (td w r - td w (fa w r 5) + lapw w r)
def jbT (w : Wd) (s t : Int) : Prop := blfw w s t = 1 ∧ ¬ holdw w t
theorem fuP_y {P : Int → Prop} {f : Nat} {i : Int} (h : P i) : fuP P (f + 1) i = i := by rw [fuP, if_pos h]
theorem fuP_n {P : Int → Prop} {f : Nat} {i : Int} (h : ¬ P i) : fuP P (f + 1) i = fuP P f (i + 1) := by rw [fuP, if_neg h]
noncomputable def jdgw (w : Wd) (s : Int) : Int := if s = 0 ∨ s = 1 then (if fuP (jbR w s) (w 1 3).toNat 0 = -1 then (if fuP (jbT w s) (w 5 3).toNat 0 = -1 then -1 else 200 + fuP (jbT w s) (w 5 3).toNat 0) else 100 + fuP (jbR w s) (w 1 3).toNat 0) else -101
theorem jdgw_1 {w : Wd} {s r : Int} (hs : s = 0 ∨ s = 1) (h : fuP (jbR w s) (w 1 3).toNat 0 = r) (h0 : 0 ≤ r) : 100 + r = jdgw w s := by unfold jdgw; rw [if_pos hs, h, if_neg (by omega)]
theorem jdgw_2 {w : Wd} {s r : Int} (hs : s = 0 ∨ s = 1) (g : fuP (jbR w s) (w 1 3).toNat 0 = -1) (h : fuP (jbT w s) (w 5 3).toNat 0 = r) (h0 : 0 ≤ r) : 200 + r = jdgw w s := by unfold jdgw; rw [if_pos hs, g, if_pos rfl, h, if_neg (by omega)]
theorem jdgw_3 {w : Wd} {s : Int} (hs : s = 0 ∨ s = 1) (g : fuP (jbR w s) (w 1 3).toNat 0 = -1) (h : fuP (jbT w s) (w 5 3).toNat 0 = -1) : -1 = jdgw w s := by unfold jdgw; rw [if_pos hs, g, if_pos rfl, h, if_pos rfl]

set_option maxRecDepth 100000 in
set_option maxHeartbeats 4000000 in
theorem c_X7_judge {B : Bs} {w : Wd} {s : Int} (hQ : QI w) (ht : ∀ r : Int, -2000 ≤ td w r ∧ td w r ≤ 2000) (hs : inR s) : Sp (GX B) 5 yX7_judge cX7_judge 4 (Option.some FieldType.int) [.ref (ga (GX B) (0)), iv (s)] w (pE (fun x u => x = jdgw w s ∧ sq w u)) := by
  refine Sp.of (by decide) (Nat.le_of_ble_eq_true rfl) (fun X F => ?_)
  obtain ⟨q1, q2, q3, q4, q5, q6, q7, q8⟩ := id hQ
  have n10 := q2.1
  have n8 := q5.1
  show Jw (GX B) X _ 0 [some (.ref (ga (GX B) (0))), some (iv (s))] [] w
  refine jr_iload_n F dX7_judge_0 rfl ?_
  refine jr_sI F dX7_judge_1 cs_X7_161 (c_X7_isSchool (by omega)) rfl (Nat.le_of_ble_eq_true rfl) (Nat.le_of_ble_eq_true rfl) rfl (Nat.le_of_ble_eq_true rfl) ?_
  refine jr_ifne_b (tgt := 10) F dX7_judge_4 (by decide) (fun c4 => ?_) (fun c4 => ?_)
  · skip
    refine jr_iconst F dX7_judge_10 ?_
    refine jr_istore_n F dX7_judge_11 (Nat.le_of_ble_eq_true rfl) rfl ?_
    have L12 : ∀ (fuel : Nat) (u : Wd) (i : Int), (w 1 3 - i).toNat < fuel → (0 ≤ i) → (i ≤ w 1 3) → (s = 0 ∨ s = 1) → (e17 w u) → (fuP (jbR w s) (w 1 3).toNat 0 = fuP (jbR w s) (w 1 3 - i).toNat i) → Jw (GX B) X (pE (fun x u => x = jdgw w s ∧ sq w u)) 12 [some (.ref (ga (GX B) 0)), some (iv s), some (iv i)] [] u := by
      intro fuel
      induction fuel with
      | zero => intro u i hfuel; exact absurd hfuel (Nat.not_lt_zero _)
      | succ fuel ih12 =>
          intro u i hfuel i0 i1 h4 hu hz
          have u1 : u 1 = w 1 := hu 1 (by decide)
          have u2 : u 2 = w 2 := hu 2 (by decide)
          refine jr_iload_n F dX7_judge_12 rfl ?_
          refine jr_aload_n F dX7_judge_13 rfl ?_
          refine jr_getR (t := 1) F dX7_judge_14 fg_X7_10 (Nat.le_of_ble_eq_true rfl) rfl rfl ?_
          refine jr_vI F dX7_judge_17 cv_X7_227 (c_X3_size) (Nat.le_of_ble_eq_true rfl) rfl rfl rfl rfl (Nat.le_of_ble_eq_true rfl) (Nat.le_of_ble_eq_true rfl) rfl (Nat.le_of_ble_eq_true rfl) ?_
          refine jr_ti (b := (w 1 3)) (congrFun u1 3) ?_
          refine jr_icmp_ge (tgt := 67) F dX7_judge_20 (by decide) (fun c20 => ?_) (fun c20 => ?_) (by omega) (by omega)
          · skip
            refine jr_iconst F dX7_judge_67 ?_
            refine jr_istore_n F dX7_judge_68 (Nat.le_of_ble_eq_true rfl) rfl ?_
            have L69 : ∀ (fuel : Nat) (x : Wd) (i : Int), (w 5 3 - i).toNat < fuel → (0 ≤ i) → (i ≤ w 5 3) → (s = 0 ∨ s = 1) → (e17 w x) → (fuP (jbR w s) (w 1 3).toNat 0 = -1) → (fuP (jbT w s) (w 5 3).toNat 0 = fuP (jbT w s) (w 5 3 - i).toNat i) → Jw (GX B) X (pE (fun x u => x = jdgw w s ∧ sq w u)) 69 [some (.ref (ga (GX B) 0)), some (iv s), some (iv i)] [] x := by
              intro fuel
              induction fuel with
              | zero => intro x i hfuel; exact absurd hfuel (Nat.not_lt_zero _)
              | succ fuel ih69 =>
                  intro x i hfuel k0 k1 k4 hx hg hy
                  have x5 : x 5 = w 5 := hx 5 (by decide)
                  refine jr_iload_n F dX7_judge_69 rfl ?_
                  refine jr_aload_n F dX7_judge_70 rfl ?_
                  refine jr_getR (t := 5) F dX7_judge_71 fg_X7_21 (Nat.le_of_ble_eq_true rfl) rfl rfl ?_
                  refine jr_vI F dX7_judge_74 cv_X7_139 (c_X6_size_5) (Nat.le_of_ble_eq_true rfl) rfl rfl rfl rfl (Nat.le_of_ble_eq_true rfl) (Nat.le_of_ble_eq_true rfl) rfl (Nat.le_of_ble_eq_true rfl) ?_
                  refine jr_ti (b := (w 5 3)) (congrFun x5 3) ?_
                  refine jr_icmp_ge (tgt := 117) F dX7_judge_77 (by decide) (fun c77 => ?_) (fun c77 => ?_) (by omega) (by omega)
                  · skip
                    refine jr_iconst F dX7_judge_117 ?_
                    exact jr_iret F dX7_judge_118 (pE_of ⟨jdgw_3 k4 hg (by rw [hy, show (w 5 3 - i).toNat = 0 by omega]; rfl), e17_sq hx⟩)
                  · skip
                    have tt := q5.2 i k0 (by omega)
                    refine jr_aload_n F dX7_judge_80 rfl ?_
                    refine jr_iload_n F dX7_judge_81 rfl ?_
                    refine jr_iload_n F dX7_judge_82 rfl ?_
                    refine jr_vE F dX7_judge_83 cv_X7_183 (c_belief k4 (SOK_e hx q1) (by omega)) (Nat.le_of_ble_eq_true rfl) rfl rfl rfl rfl (Nat.le_of_ble_eq_true rfl) (Nat.le_of_ble_eq_true rfl) rfl (Nat.le_of_ble_eq_true rfl) (fun r83 w83 h83 => ?_)
                    have x83 : e17 w w83 := e17_t hx h83.2
                    have e83 : r83 = blfw w s i := by rw [h83.1, e17_blf hx]
                    rw [e83]
                    have bR : -49 ≤ blfw w s i ∧ blfw w s i ≤ 78 := sayw_R q1 s _ 66 1 (by omega)
                    refine jr_iconst F dX7_judge_86 ?_
                    refine jr_icmp_ne (tgt := 111) F dX7_judge_87 (by decide) (fun c87 => ?_) (fun c87 => ?_) (by omega) (by omega)
                    · skip
                      refine jr_iinc F dX7_judge_111 rfl (Nat.le_of_ble_eq_true rfl) rfl ?_
                      refine jr_goto (tgt := 69) F dX7_judge_114 (by decide) ?_
                      exact jr_sub (ih69 _ (i + 1) (by omega) (by omega) (by omega) k4 x83 hg (by rw [hy, show (w 5 3 - i).toNat = (w 5 3 - (i + 1)).toNat + 1 by omega, fuP_n (fun q => c87 q.1)])) ⟨rfl, rfl, rfl, trivial⟩
                    · skip
                      refine jr_aload_n F dX7_judge_90 rfl ?_
                      refine jr_getR (t := 5) F dX7_judge_91 fg_X7_21 (Nat.le_of_ble_eq_true rfl) rfl rfl ?_
                      refine jr_iload_n F dX7_judge_94 rfl ?_
                      refine jr_aload_n F dX7_judge_95 rfl ?_
                      refine jr_getR (t := 1) F dX7_judge_96 fg_X7_10 (Nat.le_of_ble_eq_true rfl) rfl rfl ?_
                      refine jr_vI F dX7_judge_99 cv_X7_231 (c_X6_holdsAsTold_5 (cell_smT (x83 6 (by decide)) (x83 7 (by decide)) tt.1) (by rw [e17_td x83]; exact ht)) (Nat.le_of_ble_eq_true rfl) rfl rfl rfl rfl (Nat.le_of_ble_eq_true rfl) (Nat.le_of_ble_eq_true rfl) rfl (Nat.le_of_ble_eq_true rfl) ?_
                      rw [e17_hold x83]
                      refine jr_ifne_b (tgt := 111) F dX7_judge_102 (by decide) (fun c102 => ?_) (fun c102 => ?_)
                      · skip
                        refine jr_iinc F dX7_judge_111 rfl (Nat.le_of_ble_eq_true rfl) rfl ?_
                        refine jr_goto (tgt := 69) F dX7_judge_114 (by decide) ?_
                        exact jr_sub (ih69 _ (i + 1) (by omega) (by omega) (by omega) k4 x83 hg (by rw [hy, show (w 5 3 - i).toNat = (w 5 3 - (i + 1)).toNat + 1 by omega, fuP_n (fun q => q.2 c102)])) ⟨rfl, rfl, rfl, trivial⟩
                      · skip
                        refine jr_sipush F dX7_judge_105 (by decide) ?_
                        refine jr_iload_n F dX7_judge_108 rfl ?_
                        refine jr_iadd F dX7_judge_109 ?_
                        exact jr_iret F dX7_judge_110 (pE_of ⟨jdgw_2 k4 hg (by rw [hy, show (w 5 3 - i).toNat = (w 5 3 - (i + 1)).toNat + 1 by omega, fuP_y ⟨c87, c102⟩]) k0, e17_sq x83⟩)
            exact jr_sub (L69 _ _ 0 (Nat.lt_succ_self _) (by omega) (by omega) h4 hu (by rw [hz, show (w 1 3 - i).toNat = 0 by omega]; rfl) (by rw [Int.sub_zero])) ⟨rfl, rfl, rfl, trivial⟩
          · skip
            have ri := q2.2 i i0 (by omega)
            have ff := cell_fa u2
            refine jr_aload_n F dX7_judge_23 rfl ?_
            refine jr_getR (t := 1) F dX7_judge_24 fg_X7_10 (Nat.le_of_ble_eq_true rfl) rfl rfl ?_
            refine jr_iload_n F dX7_judge_27 rfl ?_
            refine jr_iconst F dX7_judge_28 ?_
            refine jr_vI F dX7_judge_29 cv_X7_88 (c_X3_fact (by omega)) (Nat.le_of_ble_eq_true rfl) rfl rfl rfl rfl (Nat.le_of_ble_eq_true rfl) (Nat.le_of_ble_eq_true rfl) rfl (Nat.le_of_ble_eq_true rfl) ?_
            refine jr_ti (b := (fa w i 5)) (by rw [ff]) ?_
            refine jr_istore_n F dX7_judge_32 (Nat.le_of_ble_eq_true rfl) rfl ?_
            refine jr_iload_n F dX7_judge_33 rfl ?_
            refine jr_iconst F dX7_judge_34 ?_
            refine jr_icmp_eq (tgt := 61) F dX7_judge_35 (by decide) (fun c35 => ?_) (fun c35 => ?_) (by omega) (by omega)
            · skip
              refine jr_iinc F dX7_judge_61 rfl (Nat.le_of_ble_eq_true rfl) rfl ?_
              refine jr_goto (tgt := 12) F dX7_judge_64 (by decide) ?_
              exact jr_sub (ih12 _ (i + 1) (by omega) (by omega) (by omega) h4 hu (by rw [hz, show (w 1 3 - i).toNat = (w 1 3 - (i + 1)).toNat + 1 by omega, fuP_n (fun q => q.1 c35)])) ⟨rfl, rfl, rfl, trivial⟩
            · skip
              have rp := q2.2 (fa w i 5) (by omega) (by omega)
              have cc := q8 s (fa w i 5) h4 (by omega) (by omega)
              refine jr_aload_n F dX7_judge_38 rfl ?_
              refine jr_getR (t := 1) F dX7_judge_39 fg_X7_10 (Nat.le_of_ble_eq_true rfl) rfl rfl ?_
              refine jr_iload_n F dX7_judge_42 rfl ?_
              refine jr_iload_n F dX7_judge_43 rfl ?_
              refine jr_aload_n F dX7_judge_44 rfl ?_
              refine jr_iload_n F dX7_judge_45 rfl ?_
              refine jr_iload_n F dX7_judge_46 rfl ?_
              refine jr_vE F dX7_judge_47 cv_X7_180 (c_count h4 (SOK_e hu q1) (by omega)) (Nat.le_of_ble_eq_true rfl) rfl rfl rfl rfl (Nat.le_of_ble_eq_true rfl) (Nat.le_of_ble_eq_true rfl) rfl (Nat.le_of_ble_eq_true rfl) (fun r47 w47 h47 => ?_)
              have u47 : e17 w w47 := e17_t hu h47.2
              have e47 : r47 = cntw w s (fa w i 5) := by rw [h47.1, e17_cnt hu]
              rw [e47]
              refine jr_vI F dX7_judge_50 cv_X7_228 (c_X3_isToldBehind (cell_smR (u47 2 (by decide)) rp.1) (cell_smR (u47 2 (by decide)) ri.1) (by omega) (by rw [e17_td u47]; exact ht _) (by rw [e17_td u47]; exact ht _)) (Nat.le_of_ble_eq_true rfl) rfl rfl rfl rfl (Nat.le_of_ble_eq_true rfl) (Nat.le_of_ble_eq_true rfl) rfl (Nat.le_of_ble_eq_true rfl) ?_
              rw [e17_fit u47, e17_td u47, cell_lap (u47 2 (by decide))]
              refine jr_ifne_b (tgt := 61) F dX7_judge_53 (by decide) (fun c53 => ?_) (fun c53 => ?_)
              · skip
                refine jr_iinc F dX7_judge_61 rfl (Nat.le_of_ble_eq_true rfl) rfl ?_
                refine jr_goto (tgt := 12) F dX7_judge_64 (by decide) ?_
                exact jr_sub (ih12 _ (i + 1) (by omega) (by omega) (by omega) h4 u47 (by rw [hz, show (w 1 3 - i).toNat = (w 1 3 - (i + 1)).toNat + 1 by omega, fuP_n (fun q => q.2 c53)])) ⟨rfl, rfl, rfl, trivial⟩
              · skip
                refine jr_bipush F dX7_judge_56 (by decide) ?_
                refine jr_iload_n F dX7_judge_58 rfl ?_
                refine jr_iadd F dX7_judge_59 ?_
                exact jr_iret F dX7_judge_60 (pE_of ⟨jdgw_1 h4 (by rw [hz, show (w 1 3 - i).toNat = (w 1 3 - (i + 1)).toNat + 1 by omega, fuP_y ⟨c35, c53⟩]) i0, e17_sq u47⟩)
    exact jr_sub (L12 _ _ 0 (Nat.lt_succ_self _) (by omega) (by omega) c4 (e17_r w) (by rw [Int.sub_zero])) ⟨rfl, rfl, rfl, trivial⟩
  · skip
    refine jr_bipush F dX7_judge_7 (by decide) ?_
    exact jr_iret F dX7_judge_9 (pE_of ⟨by unfold jdgw; rw [if_neg c4], sq_r w⟩)

noncomputable def dgC (w : Wd) (s : Int) : Nat → Int → Int
  | 0, h => h
  | n + 1, h => 31 * dgC w s n h + cntw w s (n : Nat)
noncomputable def dgB (w : Wd) (s : Int) : Nat → Int → Int
  | 0, h => h
  | n + 1, h => 31 * dgB w s n h + blfw w s (n : Nat)
def dgK (w : Wd) : Nat → Int → Int
  | 0, h => h
  | n + 1, h => 31 * dgK w n h + couw w (n : Nat)
theorem dgC_s {w : Wd} {s n h : Int} (h0 : 0 ≤ n) : dgC w s (n + 1).toNat h = 31 * dgC w s n.toNat h + cntw w s n := by rw [show (n + 1).toNat = n.toNat + 1 by omega, dgC, Int.toNat_of_nonneg h0]
theorem dgB_s {w : Wd} {s n h : Int} (h0 : 0 ≤ n) : dgB w s (n + 1).toNat h = 31 * dgB w s n.toNat h + blfw w s n := by rw [show (n + 1).toNat = n.toNat + 1 by omega, dgB, Int.toNat_of_nonneg h0]
theorem dgK_s {w : Wd} {n h : Int} (h0 : 0 ≤ n) : dgK w (n + 1).toNat h = 31 * dgK w n.toNat h + couw w n := by rw [show (n + 1).toNat = n.toNat + 1 by omega, dgK, Int.toNat_of_nonneg h0]
noncomputable def dgY (w : Wd) (s h : Int) : Int := dgB w s (w 5 3).toNat (dgC w s (w 1 3).toNat h)
noncomputable def dgZ (w : Wd) : Nat → Int → Int
  | 0, h => h
  | n + 1, h => 31 * (31 * dgY w (n : Nat) (dgZ w n h) + canw w (n : Nat) 9) + flqw w (n : Nat) 9
theorem dgZ_s {w : Wd} {n h : Int} (h0 : 0 ≤ n) : dgZ w (n + 1).toNat h = 31 * (31 * dgY w n (dgZ w n.toNat h) + canw w n 9) + flqw w n 9 := by rw [show (n + 1).toNat = n.toNat + 1 by omega, dgZ, Int.toNat_of_nonneg h0]
noncomputable def digw (w : Wd) : Int := dgK w 7 (dgP w (w 18 1).toNat (dgW w (w 8 3).toNat (dgZ w 2 (dgT w (w 5 3).toNat (dgR w (w 1 3).toNat 293)))))
theorem sq_cou {w u : Wd} (h : sq w u) (k : Int) : couw u k = couw w k := by
  unfold couw
  rw [h 1 (by decide) (by decide), h 5 (by decide) (by decide), h 11 (by decide) (by decide), h 14 (by decide) (by decide), h 18 (by decide) (by decide), h 8 (by decide) (by decide), h 0 (by decide) (by decide)]
theorem sq_dgW {w u : Wd} (h : sq w u) : ∀ (n : Nat) (z : Int), dgW u n z = dgW w n z := by
  have e : ∀ (t : Int) (n : Nat) (z : Int), dgWf u t n z = dgWf w t n z := by
    intro t n
    induction n with
    | zero => intro z; rfl
    | succ n ih => intro z; rw [dgWf, dgWf, ih, cell_wfa (h 9 (by decide) (by decide))]
  intro n
  induction n with
  | zero => intro z; rfl
  | succ n ih => intro z; rw [dgW, dgW, ih, e]
theorem sq_dgP {w u : Wd} (h : sq w u) : ∀ (n : Nat) (z : Int), dgP u n z = dgP w n z := by
  intro n
  induction n with
  | zero => intro z; rfl
  | succ n ih => intro z; rw [dgP, dgP, ih]; unfold pgl; rw [sq_rd h (by decide) (by decide)]
theorem sq_canw {w u : Wd} (h : sq w u) : canw u = canw w := by funext s e; unfold canw; rw [sq_hasL h, sq_blB h]
theorem sq_flq {w u : Wd} (h : sq w u) : flqw u = flqw w := by funext s e; unfold flqw; rw [sq_flow h, sq_blB h]
theorem sq_dgY {w u : Wd} (h : sq w u) (s z : Int) : dgY u s z = dgY w s z := by
  have e1 : ∀ n : Nat, dgC u s n z = dgC w s n z := by
    intro n
    induction n with
    | zero => rfl
    | succ n ih => rw [dgC, dgC, ih, sq_cnt h]
  have e2 : ∀ (n : Nat) (y : Int), dgB u s n y = dgB w s n y := by
    intro n
    induction n with
    | zero => intro y; rfl
    | succ n ih => intro y; rw [dgB, dgB, ih, sq_blf h]
  unfold dgY
  rw [e1, e2, h 1 (by decide) (by decide), h 5 (by decide) (by decide)]
theorem canw_R (w : Wd) (s e : Int) : -103 ≤ canw w s e ∧ canw w s e ≤ 1 := by
  have := refq_R s e
  have := bi_01 (hasL w s e (blB w s e) (-1))
  unfold canw; split <;> omega
theorem flqw_R {w : Wd} (h : w 1 3 ≤ 10) (s e : Int) : -103 ≤ flqw w s e ∧ flqw w s e ≤ 1023 := by
  have := refq_R s e
  have := bsI_R10 (fun k => fa w k 4 ≤ e ∧ ¬ anc w (blB w s e) e k) h
  unfold flqw flow; split <;> omega
theorem couw_R {w : Wd} (h1 : 0 ≤ w 1 3 ∧ w 1 3 ≤ 10) (h2 : 0 ≤ w 5 3 ∧ w 5 3 ≤ 8) (h3 : 0 ≤ w 11 2 ∧ w 11 2 ≤ 6) (h4 : 0 ≤ w 14 2 ∧ w 14 2 ≤ 6) (h5 : 0 ≤ w 18 1 ∧ w 18 1 ≤ 60) (h6 : 0 ≤ w 8 3 ∧ w 8 3 ≤ 6) (h7 : 0 ≤ w 0 8 ∧ w 0 8 ≤ 10) (k : Int) : -102 ≤ couw w k ∧ couw w k ≤ 60 := by unfold couw; (repeat' split) <;> omega

set_option maxRecDepth 100000 in
set_option maxHeartbeats 4000000 in
theorem c_X7_sayingsDigest {B : Bs} {w : Wd} {h s : Int} (hS : SOK w) (hs : s = 0 ∨ s = 1) : Sp (GX B) 5 yX7_sayingsDigest cX7_sayingsDigest 7 (Option.some FieldType.long) [.ref (ga (GX B) (0)), lq (h), iv (s)] w (pG (fun x u => x = dgY w s h ∧ e17 w u)) := by
  refine Sp.of (by decide) (Nat.le_of_ble_eq_true rfl) (fun X F => ?_)
  have n10 := hS.1
  have n8 := hS.2.1
  show Jw (GX B) X _ 0 [some (.ref (ga (GX B) (0))), some (lq (h)), none, some (iv (s))] [] w
  refine jr_lload_n F dX7_sayingsDigest_0 rfl ?_
  refine jr_lstore F dX7_sayingsDigest_1 (Nat.le_of_ble_eq_true rfl) rfl ?_
  refine jr_iconst F dX7_sayingsDigest_3 ?_
  refine jr_istore F dX7_sayingsDigest_4 (Nat.le_of_ble_eq_true rfl) rfl ?_
  have L6 : ∀ (fuel : Nat) (u : Wd) (i : Int) (z : Int), (w 1 3 - i).toNat < fuel → (0 ≤ i) → (i ≤ w 1 3) → (e17 w u) → (z = dgC w s i.toNat h) → Jw (GX B) X (pG (fun x u => x = dgY w s h ∧ e17 w u)) 6 [some (.ref (ga (GX B) 0)), some (lq h), none, some (iv s), some (lq z), none, some (iv i)] [] u := by
    intro fuel
    induction fuel with
    | zero => intro u i z hfuel; exact absurd hfuel (Nat.not_lt_zero _)
    | succ fuel ih6 =>
        intro u i z hfuel h0 h1 hu hz
        have u1 : u 1 = w 1 := hu 1 (by decide)
        refine jr_iload F dX7_sayingsDigest_6 rfl ?_
        refine jr_aload_n F dX7_sayingsDigest_8 rfl ?_
        refine jr_getR (t := 1) F dX7_sayingsDigest_9 fg_X7_10 (Nat.le_of_ble_eq_true rfl) rfl rfl ?_
        refine jr_vI F dX7_sayingsDigest_12 cv_X7_227 (c_X3_size) (Nat.le_of_ble_eq_true rfl) rfl rfl rfl rfl (Nat.le_of_ble_eq_true rfl) (Nat.le_of_ble_eq_true rfl) rfl (Nat.le_of_ble_eq_true rfl) ?_
        refine jr_ti (b := (w 1 3)) (congrFun u1 3) ?_
        refine jr_icmp_ge (tgt := 41) F dX7_sayingsDigest_15 (by decide) (fun c15 => ?_) (fun c15 => ?_) (by omega) (by omega)
        · skip
          refine jr_iconst F dX7_sayingsDigest_41 ?_
          refine jr_istore F dX7_sayingsDigest_42 (Nat.le_of_ble_eq_true rfl) rfl ?_
          have L44 : ∀ (fuel : Nat) (x : Wd) (i : Int) (y : Int), (w 5 3 - i).toNat < fuel → (0 ≤ i) → (i ≤ w 5 3) → (e17 w x) → (y = dgB w s i.toNat (dgC w s (w 1 3).toNat h)) → Jw (GX B) X (pG (fun x u => x = dgY w s h ∧ e17 w u)) 44 [some (.ref (ga (GX B) 0)), some (lq h), none, some (iv s), some (lq y), none, some (iv i)] [] x := by
            intro fuel
            induction fuel with
            | zero => intro x i y hfuel; exact absurd hfuel (Nat.not_lt_zero _)
            | succ fuel ih44 =>
                intro x i y hfuel k0 k1 hx hy
                have x5 : x 5 = w 5 := hx 5 (by decide)
                refine jr_iload F dX7_sayingsDigest_44 rfl ?_
                refine jr_aload_n F dX7_sayingsDigest_46 rfl ?_
                refine jr_getR (t := 5) F dX7_sayingsDigest_47 fg_X7_21 (Nat.le_of_ble_eq_true rfl) rfl rfl ?_
                refine jr_vI F dX7_sayingsDigest_50 cv_X7_139 (c_X6_size_5) (Nat.le_of_ble_eq_true rfl) rfl rfl rfl rfl (Nat.le_of_ble_eq_true rfl) (Nat.le_of_ble_eq_true rfl) rfl (Nat.le_of_ble_eq_true rfl) ?_
                refine jr_ti (b := (w 5 3)) (congrFun x5 3) ?_
                refine jr_icmp_ge (tgt := 79) F dX7_sayingsDigest_53 (by decide) (fun c53 => ?_) (fun c53 => ?_) (by omega) (by omega)
                · skip
                  refine jr_lload F dX7_sayingsDigest_79 rfl ?_
                  exact jr_lret F dX7_sayingsDigest_81 (pG_of ⟨by rw [hy, show i = w 5 3 by omega]; rfl, hx⟩)
                · skip
                  refine jr_ldc2 (z := 31) F dX7_sayingsDigest_56 (tb_in 887 (by decide +kernel) (by decide +kernel)) ?_
                  refine jr_lload F dX7_sayingsDigest_59 rfl ?_
                  refine jr_lmul F dX7_sayingsDigest_61 ?_
                  refine jr_aload_n F dX7_sayingsDigest_62 rfl ?_
                  refine jr_iload_n F dX7_sayingsDigest_63 rfl ?_
                  refine jr_iload F dX7_sayingsDigest_64 rfl ?_
                  refine jr_vE F dX7_sayingsDigest_66 cv_X7_183 (c_belief hs (SOK_e hx hS) (by omega)) (Nat.le_of_ble_eq_true rfl) rfl rfl rfl rfl (Nat.le_of_ble_eq_true rfl) (Nat.le_of_ble_eq_true rfl) rfl (Nat.le_of_ble_eq_true rfl) (fun r66 w66 h66 => ?_)
                  have bR := sayw_R (SOK_e hx hS) s (selv (fa x (tfa x i 1) 0) (tfa x i 0) (tfa x i 2) i) 66 1 (by omega)
                  have bE : r66 = sayw x s (selv (fa x (tfa x i 1) 0) (tfa x i 0) (tfa x i 2) i) 66 1 := h66.1
                  refine jr_i2l F dX7_sayingsDigest_69 (by omega) ?_
                  refine jr_ladd F dX7_sayingsDigest_70 ?_
                  refine jr_lstore F dX7_sayingsDigest_71 (Nat.le_of_ble_eq_true rfl) rfl ?_
                  refine jr_iinc F dX7_sayingsDigest_73 rfl (Nat.le_of_ble_eq_true rfl) rfl ?_
                  refine jr_goto (tgt := 44) F dX7_sayingsDigest_76 (by decide) ?_
                  exact jr_sub (ih44 _ (i + 1) _ (by omega) (by omega) (by omega) (e17_t hx h66.2) (by rw [dgB_s k0, hy, h66.1, e17_blf hx])) ⟨rfl, rfl, rfl, rfl, rfl, trivial⟩
          exact jr_sub (L44 _ _ 0 z (Nat.lt_succ_self _) (by omega) (by omega) hu (by rw [hz, show i = w 1 3 by omega]; rfl)) ⟨rfl, rfl, rfl, rfl, rfl, trivial⟩
        · skip
          refine jr_ldc2 (z := 31) F dX7_sayingsDigest_18 (tb_in 887 (by decide +kernel) (by decide +kernel)) ?_
          refine jr_lload F dX7_sayingsDigest_21 rfl ?_
          refine jr_lmul F dX7_sayingsDigest_23 ?_
          refine jr_aload_n F dX7_sayingsDigest_24 rfl ?_
          refine jr_iload_n F dX7_sayingsDigest_25 rfl ?_
          refine jr_iload F dX7_sayingsDigest_26 rfl ?_
          refine jr_vE F dX7_sayingsDigest_28 cv_X7_180 (c_count hs (SOK_e hu hS) (by omega)) (Nat.le_of_ble_eq_true rfl) rfl rfl rfl rfl (Nat.le_of_ble_eq_true rfl) (Nat.le_of_ble_eq_true rfl) rfl (Nat.le_of_ble_eq_true rfl) (fun r28 w28 h28 => ?_)
          have bR := sayw_R (SOK_e hu hS) s (selv (fa u i 0) (fa u i 1) (fa u i 2) i) 67 0 (by omega)
          have bE : r28 = sayw u s (selv (fa u i 0) (fa u i 1) (fa u i 2) i) 67 0 := h28.1
          refine jr_i2l F dX7_sayingsDigest_31 (by omega) ?_
          refine jr_ladd F dX7_sayingsDigest_32 ?_
          refine jr_lstore F dX7_sayingsDigest_33 (Nat.le_of_ble_eq_true rfl) rfl ?_
          refine jr_iinc F dX7_sayingsDigest_35 rfl (Nat.le_of_ble_eq_true rfl) rfl ?_
          refine jr_goto (tgt := 6) F dX7_sayingsDigest_38 (by decide) ?_
          exact jr_sub (ih6 _ (i + 1) _ (by omega) (by omega) (by omega) (e17_t hu h28.2) (by rw [dgC_s h0, hz, h28.1, e17_cnt hu])) ⟨rfl, rfl, rfl, rfl, rfl, trivial⟩
  exact jr_sub (L6 _ _ 0 h (Nat.lt_succ_self _) (by omega) (by omega) (e17_r w) rfl) ⟨rfl, rfl, rfl, rfl, rfl, trivial⟩

set_option maxRecDepth 100000 in
set_option maxHeartbeats 4000000 in
theorem c_X7_digest {B : Bs} {w : Wd}  (hQ : QI w) (hN : TN w) (hp : 0 ≤ w 18 1 ∧ w 18 1 ≤ 60) (h8 : 0 ≤ w 0 8 ∧ w 0 8 ≤ 10) : Sp (GX B) 8 yX7_digest cX7_digest 4 (Option.some FieldType.long) [.ref (ga (GX B) (0))] w (pG (fun x u => x = digw w ∧ sq w u)) := by
  refine Sp.of (by decide) (Nat.le_of_ble_eq_true rfl) (fun X F => ?_)
  obtain ⟨q1, q2, q3, q4, q5, q6, q7, q8⟩ := id hQ
  have n10 := q2.1
  have n8 := q5.1
  have n6 := q7.1
  show Jw (GX B) X _ 0 [some (.ref (ga (GX B) (0)))] [] w
  refine jr_aload_n F dX7_digest_0 rfl ?_
  refine jr_getR (t := 5) F dX7_digest_1 fg_X7_21 (Nat.le_of_ble_eq_true rfl) rfl rfl ?_
  refine jr_aload_n F dX7_digest_4 rfl ?_
  refine jr_getR (t := 1) F dX7_digest_5 fg_X7_10 (Nat.le_of_ble_eq_true rfl) rfl rfl ?_
  refine jr_ldc2 (z := 293) F dX7_digest_8 (tb_in 868 (by decide +kernel) (by decide +kernel)) ?_
  refine jr_vL F dX7_digest_11 cv_X7_237 (c_X3_digestOn (by omega)) (Nat.le_of_ble_eq_true rfl) rfl rfl rfl rfl (Nat.le_of_ble_eq_true rfl) (Nat.le_of_ble_eq_true rfl) rfl (Nat.le_of_ble_eq_true rfl) ?_
  refine jr_vL F dX7_digest_14 cv_X7_241 (c_X6_digestOn_5 (by omega)) (Nat.le_of_ble_eq_true rfl) rfl rfl rfl rfl (Nat.le_of_ble_eq_true rfl) (Nat.le_of_ble_eq_true rfl) rfl (Nat.le_of_ble_eq_true rfl) ?_
  refine jr_lstore_n F dX7_digest_17 (Nat.le_of_ble_eq_true rfl) rfl ?_
  refine jr_iconst F dX7_digest_18 ?_
  refine jr_istore_n F dX7_digest_19 (Nat.le_of_ble_eq_true rfl) rfl ?_
  have L20 : ∀ (fuel : Nat) (u : Wd) (i : Int) (z : Int), (2 - i).toNat < fuel → (0 ≤ i) → (i ≤ 2) → (sq w u) → (z = dgZ w i.toNat (dgT w (w 5 3).toNat (dgR w (w 1 3).toNat 293))) → Jw (GX B) X (pG (fun x u => x = digw w ∧ sq w u)) 20 [some (.ref (ga (GX B) 0)), some (lq z), none, some (iv i)] [] u := by
    intro fuel
    induction fuel with
    | zero => intro u i z hfuel; exact absurd hfuel (Nat.not_lt_zero _)
    | succ fuel ih20 =>
        intro u i z hfuel h0 h1 hu hz
        have Qu := sq_QI hu hQ
        refine jr_iload_n F dX7_digest_20 rfl ?_
        refine jr_iconst F dX7_digest_21 ?_
        refine jr_icmp_ge (tgt := 68) F dX7_digest_22 (by decide) (fun c22 => ?_) (fun c22 => ?_) (by omega) (by omega)
        · skip
          obtain rfl : i = 2 := by omega
          refine jr_aload_n F dX7_digest_68 rfl ?_
          refine jr_getR (t := 18) F dX7_digest_69 fg_X7_48 (Nat.le_of_ble_eq_true rfl) rfl rfl ?_
          refine jr_aload_n F dX7_digest_72 rfl ?_
          refine jr_getR (t := 8) F dX7_digest_73 fg_X7_25 (Nat.le_of_ble_eq_true rfl) rfl rfl ?_
          refine jr_lload_n F dX7_digest_76 rfl ?_
          refine jr_vL F dX7_digest_77 cv_X7_254 (c_X6_digestPairsOn_8 (by rw [hu 8 (by decide) (by decide)]; omega)) (Nat.le_of_ble_eq_true rfl) rfl rfl rfl rfl (Nat.le_of_ble_eq_true rfl) (Nat.le_of_ble_eq_true rfl) rfl (Nat.le_of_ble_eq_true rfl) ?_
          refine jr_vL F dX7_digest_80 cv_X7_257 (c_X2_digestOn (by rw [hu 18 (by decide) (by decide)]; omega)) (Nat.le_of_ble_eq_true rfl) rfl rfl rfl rfl (Nat.le_of_ble_eq_true rfl) (Nat.le_of_ble_eq_true rfl) rfl (Nat.le_of_ble_eq_true rfl) ?_
          refine jr_lstore_n F dX7_digest_83 (Nat.le_of_ble_eq_true rfl) rfl ?_
          have hd : dgP u (u 18 1).toNat (dgW u (u 8 3).toNat z) = dgP w (w 18 1).toNat (dgW w (w 8 3).toNat (dgZ w 2 (dgT w (w 5 3).toNat (dgR w (w 1 3).toNat 293)))) := by rw [sq_dgP hu, sq_dgW hu, hu 18 (by decide) (by decide), hu 8 (by decide) (by decide), hz]; rfl
          refine jr_iconst F dX7_digest_84 ?_
          refine jr_istore_n F dX7_digest_85 (Nat.le_of_ble_eq_true rfl) rfl ?_
          have L86 : ∀ (fuel : Nat) (i : Int) (y : Int), (7 - i).toNat < fuel → (0 ≤ i) → (i ≤ 7) → (y = dgK w i.toNat (dgP w (w 18 1).toNat (dgW w (w 8 3).toNat (dgZ w 2 (dgT w (w 5 3).toNat (dgR w (w 1 3).toNat 293)))))) → Jw (GX B) X (pG (fun x u => x = digw w ∧ sq w u)) 86 [some (.ref (ga (GX B) 0)), some (lq y), none, some (iv i)] [] u := by
            intro fuel
            induction fuel with
            | zero => intro i y hfuel; exact absurd hfuel (Nat.not_lt_zero _)
            | succ fuel ih86 =>
                intro i y hfuel k0 k1 hy
                refine jr_iload_n F dX7_digest_86 rfl ?_
                refine jr_bipush F dX7_digest_87 (by decide) ?_
                refine jr_icmp_gt (tgt := 111) F dX7_digest_89 (by decide) (fun c89 => ?_) (fun c89 => ?_) (by omega) (by omega)
                · skip
                  refine jr_lload_n F dX7_digest_111 rfl ?_
                  exact jr_lret F dX7_digest_112 (pG_of ⟨by rw [hy, show i = 7 by omega]; rfl, hu⟩)
                · skip
                  refine jr_ldc2 (z := 31) F dX7_digest_92 (tb_in 887 (by decide +kernel) (by decide +kernel)) ?_
                  refine jr_lload_n F dX7_digest_95 rfl ?_
                  refine jr_lmul F dX7_digest_96 ?_
                  refine jr_aload_n F dX7_digest_97 rfl ?_
                  refine jr_iload_n F dX7_digest_98 rfl ?_
                  refine jr_vI F dX7_digest_99 cv_X7_258 (c_X7_count (by omega)) (Nat.le_of_ble_eq_true rfl) rfl rfl rfl rfl (Nat.le_of_ble_eq_true rfl) (Nat.le_of_ble_eq_true rfl) rfl (Nat.le_of_ble_eq_true rfl) ?_
                  have kR := couw_R (w := w) n10 n8 q1.2.2.1 q1.2.2.2.1 hp n6 h8 i
                  have kE := sq_cou hu i
                  refine jr_i2l F dX7_digest_102 (by omega) ?_
                  refine jr_ladd F dX7_digest_103 ?_
                  refine jr_lstore_n F dX7_digest_104 (Nat.le_of_ble_eq_true rfl) rfl ?_
                  refine jr_iinc F dX7_digest_105 rfl (Nat.le_of_ble_eq_true rfl) rfl ?_
                  refine jr_goto (tgt := 86) F dX7_digest_108 (by decide) ?_
                  exact jr_sub (ih86 (i + 1) _ (by omega) (by omega) (by omega) (by rw [dgK_s k0, hy, sq_cou hu])) ⟨rfl, rfl, rfl, trivial⟩
          exact jr_sub (L86 _ 0 _ (Nat.lt_succ_self _) (by omega) (by omega) hd) ⟨rfl, rfl, rfl, trivial⟩
        · skip
          refine jr_aload_n F dX7_digest_25 rfl ?_
          refine jr_lload_n F dX7_digest_26 rfl ?_
          refine jr_iload_n F dX7_digest_27 rfl ?_
          refine jr_vG F dX7_digest_28 cv_X7_242 (c_X7_sayingsDigest Qu.1 (by omega)) (Nat.le_of_ble_eq_true rfl) rfl rfl rfl rfl (Nat.le_of_ble_eq_true rfl) (Nat.le_of_ble_eq_true rfl) rfl (Nat.le_of_ble_eq_true rfl) (fun r28 w28 h28 => ?_)
          have s28 := sq_t hu (e17_sq h28.2)
          have Q28 := sq_QI s28 hQ
          refine jr_lstore_n F dX7_digest_31 (Nat.le_of_ble_eq_true rfl) rfl ?_
          refine jr_ldc2 (z := 31) F dX7_digest_32 (tb_in 887 (by decide +kernel) (by decide +kernel)) ?_
          refine jr_lload_n F dX7_digest_35 rfl ?_
          refine jr_lmul F dX7_digest_36 ?_
          refine jr_aload_n F dX7_digest_37 rfl ?_
          refine jr_iload_n F dX7_digest_38 rfl ?_
          refine jr_bipush F dX7_digest_39 (by decide) ?_
          refine jr_vE F dX7_digest_41 cv_X7_248 (c_X7_can Q28 (by omega) (by omega)) (Nat.le_of_ble_eq_true rfl) rfl rfl rfl rfl (Nat.le_of_ble_eq_true rfl) (Nat.le_of_ble_eq_true rfl) rfl (Nat.le_of_ble_eq_true rfl) (fun r41 w41 h41 => ?_)
          have s41 := sq_t s28 h41.2
          have Q41 := sq_QI s41 hQ
          have cR := canw_R w28 i 9
          refine jr_i2l F dX7_digest_44 (by have := h41.1; omega) ?_
          refine jr_ladd F dX7_digest_45 ?_
          refine jr_lstore_n F dX7_digest_46 (Nat.le_of_ble_eq_true rfl) rfl ?_
          refine jr_ldc2 (z := 31) F dX7_digest_47 (tb_in 887 (by decide +kernel) (by decide +kernel)) ?_
          refine jr_lload_n F dX7_digest_50 rfl ?_
          refine jr_lmul F dX7_digest_51 ?_
          refine jr_aload_n F dX7_digest_52 rfl ?_
          refine jr_iload_n F dX7_digest_53 rfl ?_
          refine jr_bipush F dX7_digest_54 (by decide) ?_
          refine jr_vE F dX7_digest_56 cv_X7_251 (c_X7_floats Q41 (sq_TN s41 hN) (by omega) (by omega)) (Nat.le_of_ble_eq_true rfl) rfl rfl rfl rfl (Nat.le_of_ble_eq_true rfl) (Nat.le_of_ble_eq_true rfl) rfl (Nat.le_of_ble_eq_true rfl) (fun r56 w56 h56 => ?_)
          have s56 := sq_t s41 h56.2
          have fR := flqw_R (w := w41) (by rw [s41 1 (by decide) (by decide)]; omega) i 9
          refine jr_i2l F dX7_digest_59 (by have := h56.1; omega) ?_
          refine jr_ladd F dX7_digest_60 ?_
          refine jr_lstore_n F dX7_digest_61 (Nat.le_of_ble_eq_true rfl) rfl ?_
          refine jr_iinc F dX7_digest_62 rfl (Nat.le_of_ble_eq_true rfl) rfl ?_
          refine jr_goto (tgt := 20) F dX7_digest_65 (by decide) ?_
          exact jr_sub (ih20 _ (i + 1) _ (by omega) (by omega) (by omega) s56 (by rw [dgZ_s h0, h56.1, sq_flq s41, h41.1, sq_canw s28, h28.1, sq_dgY hu, hz])) ⟨rfl, rfl, rfl, trivial⟩
  exact jr_sub (L20 _ _ 0 _ (Nat.lt_succ_self _) (by omega) (by omega) (sq_r w) rfl) ⟨rfl, rfl, rfl, trivial⟩

