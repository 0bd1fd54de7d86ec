theorem qlt_up {q : Q3} {m n : Nat} (h : qlt q m) (hn : m ≤ n) : qlt q n := by
  have := Nat.pow_le_pow_right (n := 2) (by omega) hn
  exact ⟨Nat.lt_of_lt_of_le h.1 this, Nat.lt_of_lt_of_le h.2.1 this, Nat.lt_of_lt_of_le h.2.2 this⟩
theorem qlt_N {q : Q3} {m : Nat} (h : qlt q (m + 1)) : qlt (qN q) (m + 1) := by
  have h1 : (1 : Nat) < 2 ^ (m + 1) := Nat.one_lt_two_pow (by omega)
  exact ⟨h.1, h.2.1, Nat.xor_lt_two_pow h.2.2 h1⟩
theorem qlt_P {q : Q3} {m : Nat} (h : qlt q m) : qlt (qP q) (m + 1) := by
  obtain ⟨h1, h2, h3⟩ := h
  have e : (2 : Nat) ^ (m + 1) = 2 ^ m * 2 := Nat.pow_succ 2 m
  have h1' : (1 : Nat) < 2 ^ (m + 1) := Nat.one_lt_two_pow (by omega)
  refine ⟨?_, Nat.or_lt_two_pow ?_ h1', ?_⟩ <;> (simp only [qP, Nat.shiftLeft_eq]; omega)
theorem qlt_T {q : Q3} {m v : Nat} (h : qlt q m) : qlt (qT v q) m := by
  refine ⟨h.1, ?_, Nat.lt_of_le_of_lt Nat.and_le_left h.2.2⟩
  unfold qT
  split
  · exact Nat.lt_of_le_of_lt Nat.and_le_left h.2.1
  · exact h.2.1
theorem qlt_H {q : Q3} {m : Nat} (h : qlt q m) : qlt (qH q) m := by
  refine ⟨Nat.lt_of_le_of_lt ?_ h.1, Nat.lt_of_le_of_lt ?_ h.2.1, Nat.lt_of_le_of_lt ?_ h.2.2⟩ <;> (simp only [qH, Nat.shiftRight_eq_div_pow]; exact Nat.div_le_self _ _)
theorem qlt_B {q : Q3} {m : Nat} (h : qlt q (m + 1)) : qlt (qB q) (m + 1) := by
  have h1 : (1 : Nat) < 2 ^ (m + 1) := Nat.one_lt_two_pow (by omega)
  exact ⟨Nat.or_lt_two_pow h.1 (Nat.lt_of_le_of_lt Nat.and_le_left h.2.1), Nat.or_lt_two_pow h.2.1 h1, h.2.2⟩
theorem qV_R (q : Q3) : qV q ≤ 1 := Nat.and_le_right
theorem q63 {q : Q3} {m : Nat} (h : qlt q m) (hm : m ≤ 62) : q.1 < 4611686018427387904 ∧ q.2.1 < 4611686018427387904 ∧ q.2.2 < 4611686018427387904 := qlt_up h hm
def numv (a b : Int) : Int := if 48 ≤ b ∧ b ≤ 57 then 10 * (a - 48) + b - 48 else a - 48
def cmpv (l s r : Int) : Int := if s = 60 then (if l < r then 1 else 0) else if s = 62 then (if r < l then 1 else 0) else (if l = r then 1 else 0)
noncomputable def valv (w : Wd) (c : Int) : Int := if c = 108 then w 17 0 else if c = 107 then w 17 1 else if c = 110 then w 17 2 else w 17 3
theorem cmpv_R (l s r : Int) : 0 ≤ cmpv l s r ∧ cmpv l s r ≤ 1 := by unfold cmpv; (repeat' split) <;> omega

set_option maxRecDepth 100000 in
set_option maxHeartbeats 4000000 in
theorem c_X5_set {B : Bs} {w : Wd} {a b c e : Int} (ha : inR a) (hb : inR b) (hc : inR c) (he : inR e) : Sp (GX B) 0 yX5_set cX5_set 5 (Option.none : Option FieldType) [.ref (ga (GX B) (17)), iv (a), iv (b), iv (c), iv (e)] w (pV (up (up (up (up w 17 0 a) 17 1 b) 17 2 c) 17 3 e)) := by
  refine Sp.of (by decide) (Nat.le_of_ble_eq_true rfl) (fun X F => ?_)
  show Jw (GX B) X _ 0 [some (.ref (ga (GX B) (17))), some (iv (a)), some (iv (b)), some (iv (c)), some (iv (e))] [] w
  refine jr_aload_n F dX5_set_0 rfl ?_
  refine jr_iload_n F dX5_set_1 rfl ?_
  refine jr_putIx F dX5_set_2 fp_X5_9 (Nat.le_of_ble_eq_true rfl) rfl rfl (by omega) (fun w2 e2 => ?_)
  refine jr_aload_n F dX5_set_5 rfl ?_
  refine jr_iload_n F dX5_set_6 rfl ?_
  refine jr_putIx F dX5_set_7 fp_X5_15 (Nat.le_of_ble_eq_true rfl) rfl rfl (by omega) (fun w7 e7 => ?_)
  refine jr_aload_n F dX5_set_10 rfl ?_
  refine jr_iload_n F dX5_set_11 rfl ?_
  refine jr_putIx F dX5_set_12 fp_X5_18 (Nat.le_of_ble_eq_true rfl) rfl rfl (by omega) (fun w12 e12 => ?_)
  refine jr_aload_n F dX5_set_15 rfl ?_
  refine jr_iload F dX5_set_16 rfl ?_
  refine jr_putIx F dX5_set_18 fp_X5_21 (Nat.le_of_ble_eq_true rfl) rfl rfl (by omega) (fun w18 e18 => ?_)
  exact jr_vret F dX5_set_21 ⟨rfl, (by subst e18; subst e12; subst e7; subst e2; first | rfl | omega)⟩

set_option maxRecDepth 100000 in
set_option maxHeartbeats 4000000 in
theorem c_X5_valueOf {B : Bs} {w : Wd} {c : Int} (hc : inR c) : Sp (GX B) 0 yX5_valueOf cX5_valueOf 2 (Option.some FieldType.int) [.ref (ga (GX B) (17)), iv (c)] w (pI w (valv w c)) := by
  refine Sp.of (by decide) (Nat.le_of_ble_eq_true rfl) (fun X F => ?_)
  show Jw (GX B) X _ 0 [some (.ref (ga (GX B) (17))), some (iv (c))] [] w
  refine jr_iload_n F dX5_valueOf_0 rfl ?_
  rcases (show c = 107 ∨ c = 108 ∨ c = 109 ∨ c = 110 ∨ (c < 107 ∨ 110 < c) by omega) with c1 | c1 | c1 | c1 | c1
  · refine jr_tsIn (tgt := 37) F (107) dX5_valueOf_1 c1 (by omega) (by omega) rfl (by decide) (by omega) ?_
    refine jr_aload_n F dX5_valueOf_37 rfl ?_
    refine jr_getIx F (w 17 1) dX5_valueOf_38 fg_X5_15 (Nat.le_of_ble_eq_true rfl) rfl rfl rfl (fun q38 => ?_)
    exact jr_iret F dX5_valueOf_41 (pI_of (by first | rfl | unfold valv; (repeat' split) <;> first | rfl | omega) rfl)
  · refine jr_tsIn (tgt := 32) F (108) dX5_valueOf_1 c1 (by omega) (by omega) rfl (by decide) (by omega) ?_
    refine jr_aload_n F dX5_valueOf_32 rfl ?_
    refine jr_getIx F (w 17 0) dX5_valueOf_33 fg_X5_9 (Nat.le_of_ble_eq_true rfl) rfl rfl rfl (fun q33 => ?_)
    exact jr_iret F dX5_valueOf_36 (pI_of (by first | rfl | unfold valv; (repeat' split) <;> first | rfl | omega) rfl)
  · refine jr_tsIn (tgt := 47) F (109) dX5_valueOf_1 c1 (by omega) (by omega) rfl (by decide) (by omega) ?_
    refine jr_aload_n F dX5_valueOf_47 rfl ?_
    refine jr_getIx F (w 17 3) dX5_valueOf_48 fg_X5_21 (Nat.le_of_ble_eq_true rfl) rfl rfl rfl (fun q48 => ?_)
    exact jr_iret F dX5_valueOf_51 (pI_of (by first | rfl | unfold valv; (repeat' split) <;> first | rfl | omega) rfl)
  · refine jr_tsIn (tgt := 42) F (110) dX5_valueOf_1 c1 (by omega) (by omega) rfl (by decide) (by omega) ?_
    refine jr_aload_n F dX5_valueOf_42 rfl ?_
    refine jr_getIx F (w 17 2) dX5_valueOf_43 fg_X5_18 (Nat.le_of_ble_eq_true rfl) rfl rfl rfl (fun q43 => ?_)
    exact jr_iret F dX5_valueOf_46 (pI_of (by first | rfl | unfold valv; (repeat' split) <;> first | rfl | omega) rfl)
  · refine jr_tsOut (tgt := 47) F dX5_valueOf_1 c1 (by decide) (by omega) ?_
    refine jr_aload_n F dX5_valueOf_47 rfl ?_
    refine jr_getIx F (w 17 3) dX5_valueOf_48 fg_X5_21 (Nat.le_of_ble_eq_true rfl) rfl rfl rfl (fun q48 => ?_)
    exact jr_iret F dX5_valueOf_51 (pI_of (by first | rfl | unfold valv; (repeat' split) <;> first | rfl | omega) rfl)

set_option maxRecDepth 100000 in
set_option maxHeartbeats 4000000 in
theorem c_X5_numberOf {B : Bs} {w : Wd} {a b : Int} (ha : -1 ≤ a ∧ a ≤ 200) (hb : -1 ≤ b ∧ b ≤ 200) : Sp (GX B) 0 yX5_numberOf cX5_numberOf 3 (Option.some FieldType.int) [iv (a), iv (b)] w (pI w (numv a b)) := by
  refine Sp.of (by decide) (Nat.le_of_ble_eq_true rfl) (fun X F => ?_)
  show Jw (GX B) X _ 0 [some (iv (a)), some (iv (b))] [] w
  refine jr_iload_n F dX5_numberOf_0 rfl ?_
  refine jr_bipush F dX5_numberOf_1 (by decide) ?_
  refine jr_icmp_lt (tgt := 16) F dX5_numberOf_3 (by decide) (fun c3 => ?_) (fun c3 => ?_) (by omega) (by omega)
  · skip
    refine jr_iconst F dX5_numberOf_16 ?_
    refine jr_istore_n F dX5_numberOf_17 (Nat.le_of_ble_eq_true rfl) rfl ?_
    refine jr_iload_n F dX5_numberOf_18 rfl ?_
    refine jr_if_eq (tgt := 37) F dX5_numberOf_19 (by decide) (fun c19 => ?_) (fun c19 => ?_) (by omega)
    · skip
      refine jr_iload_n F dX5_numberOf_37 rfl ?_
      refine jr_bipush F dX5_numberOf_38 (by decide) ?_
      refine jr_isub F dX5_numberOf_40 ?_
      exact jr_iret F dX5_numberOf_41 (pI_of (by unfold numv; first | rw [if_pos (by omega)] | rw [if_neg (by omega)]) rfl)
    · exact absurd c19 (by omega)
  · skip
    refine jr_iload_n F dX5_numberOf_6 rfl ?_
    refine jr_bipush F dX5_numberOf_7 (by decide) ?_
    refine jr_icmp_gt (tgt := 16) F dX5_numberOf_9 (by decide) (fun c9 => ?_) (fun c9 => ?_) (by omega) (by omega)
    · skip
      refine jr_iconst F dX5_numberOf_16 ?_
      refine jr_istore_n F dX5_numberOf_17 (Nat.le_of_ble_eq_true rfl) rfl ?_
      refine jr_iload_n F dX5_numberOf_18 rfl ?_
      refine jr_if_eq (tgt := 37) F dX5_numberOf_19 (by decide) (fun c19 => ?_) (fun c19 => ?_) (by omega)
      · skip
        refine jr_iload_n F dX5_numberOf_37 rfl ?_
        refine jr_bipush F dX5_numberOf_38 (by decide) ?_
        refine jr_isub F dX5_numberOf_40 ?_
        exact jr_iret F dX5_numberOf_41 (pI_of (by unfold numv; first | rw [if_pos (by omega)] | rw [if_neg (by omega)]) rfl)
      · exact absurd c19 (by omega)
    · skip
      refine jr_iconst F dX5_numberOf_12 ?_
      refine jr_goto (tgt := 17) F dX5_numberOf_13 (by decide) ?_
      refine jr_istore_n F dX5_numberOf_17 (Nat.le_of_ble_eq_true rfl) rfl ?_
      refine jr_iload_n F dX5_numberOf_18 rfl ?_
      refine jr_if_eq (tgt := 37) F dX5_numberOf_19 (by decide) (fun c19 => ?_) (fun c19 => ?_) (by omega)
      · exact absurd c19 (by omega)
      · skip
        refine jr_bipush F dX5_numberOf_22 (by decide) ?_
        refine jr_iload_n F dX5_numberOf_24 rfl ?_
        refine jr_bipush F dX5_numberOf_25 (by decide) ?_
        refine jr_isub F dX5_numberOf_27 ?_
        refine jr_imul F dX5_numberOf_28 ?_
        refine jr_iload_n F dX5_numberOf_29 rfl ?_
        refine jr_iadd F dX5_numberOf_30 ?_
        refine jr_bipush F dX5_numberOf_31 (by decide) ?_
        refine jr_isub F dX5_numberOf_33 ?_
        refine jr_goto (tgt := 41) F dX5_numberOf_34 (by decide) ?_
        exact jr_iret F dX5_numberOf_41 (pI_of (by unfold numv; first | rw [if_pos (by omega)] | rw [if_neg (by omega)]) rfl)

set_option maxRecDepth 100000 in
set_option maxHeartbeats 4000000 in
theorem c_X5_compared {B : Bs} {w : Wd} {l s r : Int} (hl : inR l) (hs : inR s) (hr : inR r) : Sp (GX B) 0 yX5_compared cX5_compared 3 (Option.some FieldType.long) [iv (l), iv (s), iv (r)] w (pL w (cmpv l s r)) := by
  refine Sp.of (by decide) (Nat.le_of_ble_eq_true rfl) (fun X F => ?_)
  show Jw (GX B) X _ 0 [some (iv (l)), some (iv (s)), some (iv (r))] [] w
  refine jr_iload_n F dX5_compared_0 rfl ?_
  rcases (show s = 60 ∨ s = 62 ∨ (¬ s = 60 ∧ ¬ s = 62) by omega) with c1 | c1 | c1
  · refine jr_look (tgt := 28) (off := 27) F dX5_compared_1 (by decide) (by rw [c1]; decide) (by decide) (by omega) ?_
    refine jr_iload_n F dX5_compared_28 rfl ?_
    refine jr_iload_n F dX5_compared_29 rfl ?_
    refine jr_icmp_ge (tgt := 37) F dX5_compared_30 (by decide) (fun c30 => ?_) (fun c30 => ?_) (by omega) (by omega)
    · skip
      refine jr_lconst (z := 0) F dX5_compared_37 (by decide) ?_
      exact jr_lret F dX5_compared_38 (pL_of (by unfold cmpv; (repeat' split) <;> omega) rfl)
    · skip
      refine jr_lconst (z := 1) F dX5_compared_33 (by decide) ?_
      refine jr_goto (tgt := 38) F dX5_compared_34 (by decide) ?_
      exact jr_lret F dX5_compared_38 (pL_of (by unfold cmpv; (repeat' split) <;> omega) rfl)
  · refine jr_look (tgt := 39) (off := 38) F dX5_compared_1 (by decide) (by rw [c1]; decide) (by decide) (by omega) ?_
    refine jr_iload_n F dX5_compared_39 rfl ?_
    refine jr_iload_n F dX5_compared_40 rfl ?_
    refine jr_icmp_le (tgt := 48) F dX5_compared_41 (by decide) (fun c41 => ?_) (fun c41 => ?_) (by omega) (by omega)
    · skip
      refine jr_lconst (z := 0) F dX5_compared_48 (by decide) ?_
      exact jr_lret F dX5_compared_49 (pL_of (by unfold cmpv; (repeat' split) <;> omega) rfl)
    · skip
      refine jr_lconst (z := 1) F dX5_compared_44 (by decide) ?_
      refine jr_goto (tgt := 49) F dX5_compared_45 (by decide) ?_
      exact jr_lret F dX5_compared_49 (pL_of (by unfold cmpv; (repeat' split) <;> omega) rfl)
  · refine jr_look (tgt := 50) (off := 49) F dX5_compared_1 (by decide) (by simp only [Op.lookupswitch.offset]; (repeat' split) <;> first | rfl | omega) (by decide) (by omega) ?_
    refine jr_iload_n F dX5_compared_50 rfl ?_
    refine jr_iload_n F dX5_compared_51 rfl ?_
    refine jr_icmp_ne (tgt := 59) F dX5_compared_52 (by decide) (fun c52 => ?_) (fun c52 => ?_) (by omega) (by omega)
    · skip
      refine jr_lconst (z := 0) F dX5_compared_59 (by decide) ?_
      exact jr_lret F dX5_compared_60 (pL_of (by unfold cmpv; (repeat' split) <;> omega) rfl)
    · skip
      refine jr_lconst (z := 1) F dX5_compared_55 (by decide) ?_
      refine jr_goto (tgt := 60) F dX5_compared_56 (by decide) ?_
      exact jr_lret F dX5_compared_60 (pL_of (by unfold cmpv; (repeat' split) <;> omega) rfl)

set_option maxRecDepth 100000 in
set_option maxHeartbeats 4000000 in
theorem c_X5_begin {B : Bs} {w : Wd} {q : Q3} (hq : isQ w q) (hb : qlt q 61) : Sp (GX B) 0 yX5_begin cX5_begin 1 (Option.none : Option FieldType) [.ref (ga (GX B) (17))] w (pV (s17 w (qP q))) := by
  refine Sp.of (by decide) (Nat.le_of_ble_eq_true rfl) (fun X F => ?_)
  obtain ⟨a4, a5, a6⟩ := hq
  obtain ⟨b4, b5, b6⟩ := q63 hb (by omega)
  show Jw (GX B) X _ 0 [some (.ref (ga (GX B) (17)))] [] w
  refine jr_aload_n F dX5_begin_0 rfl ?_
  refine jr_dup F dX5_begin_1 rfl ?_
  refine jr_getLx F (q.1 : Int) dX5_begin_2 fg_X5_24 (Nat.le_of_ble_eq_true rfl) rfl rfl a4 (fun q2 => ?_)
  refine jr_iconst F dX5_begin_5 ?_
  refine jr_lshl F dX5_begin_6 ?_
  refine jr_topl (z := ((q.1 <<< 1 : Nat) : Int)) F (hl_shl (by omega)) ?_
  refine jr_putLx F dX5_begin_7 fp_X5_24 (Nat.le_of_ble_eq_true rfl) rfl rfl (by have := (qlt_P hb).1; simp only [qP] at this; omega) (fun w7 e7 => ?_)
  refine jr_aload_n F dX5_begin_10 rfl ?_
  refine jr_aload_n F dX5_begin_11 rfl ?_
  refine jr_getLx F (q.2.1 : Int) dX5_begin_12 fg_X5_28 (Nat.le_of_ble_eq_true rfl) rfl rfl (by subst e7; exact a5) (fun q12 => ?_)
  refine jr_iconst F dX5_begin_15 ?_
  refine jr_lshl F dX5_begin_16 ?_
  refine jr_topl (z := ((q.2.1 <<< 1 : Nat) : Int)) F (hl_shl (by omega)) ?_
  refine jr_lconst (z := 1) F dX5_begin_17 (by decide) ?_
  refine jr_lor F dX5_begin_18 ?_
  refine jr_topl (z := (((q.2.1 <<< 1) ||| 1 : Nat) : Int)) F (hl_or (b := 1) (by rw [Nat.shiftLeft_eq]; omega) (by omega)) ?_
  refine jr_putLx F dX5_begin_19 fp_X5_28 (Nat.le_of_ble_eq_true rfl) rfl rfl (by have := (qlt_P hb).2.1; simp only [qP] at this; omega) (fun w19 e19 => ?_)
  refine jr_aload_n F dX5_begin_22 rfl ?_
  refine jr_dup F dX5_begin_23 rfl ?_
  refine jr_getLx F (q.2.2 : Int) dX5_begin_24 fg_X5_31 (Nat.le_of_ble_eq_true rfl) rfl rfl (by subst e19; subst e7; exact a6) (fun q24 => ?_)
  refine jr_iconst F dX5_begin_27 ?_
  refine jr_lshl F dX5_begin_28 ?_
  refine jr_topl (z := ((q.2.2 <<< 1 : Nat) : Int)) F (hl_shl (by omega)) ?_
  refine jr_putLx F dX5_begin_29 fp_X5_31 (Nat.le_of_ble_eq_true rfl) rfl rfl (by have := (qlt_P hb).2.2; simp only [qP] at this; omega) (fun w29 e29 => ?_)
  exact jr_vret F dX5_begin_32 ⟨rfl, (by subst e29; subst e19; subst e7; first | rfl | omega)⟩

set_option maxRecDepth 100000 in
set_option maxHeartbeats 4000000 in
theorem c_X5_take {B : Bs} {w : Wd} {q : Q3} {n : Nat} (hq : isQ w q) (hb : qlt q 61) (hv : n ≤ 1) : Sp (GX B) 0 yX5_take cX5_take 3 (Option.none : Option FieldType) [.ref (ga (GX B) (17)), lq ((n : Int))] w (pU (fun u => u = s17 w (qT n q))) := by
  refine Sp.of (by decide) (Nat.le_of_ble_eq_true rfl) (fun X F => ?_)
  obtain ⟨a4, a5, a6⟩ := id hq
  obtain ⟨b4, b5, b6⟩ := q63 hb (by omega)
  show Jw (GX B) X _ 0 [some (.ref (ga (GX B) (17))), some (lq ((n : Int))), none] [] w
  refine jr_lload_n F dX5_take_0 rfl ?_
  refine jr_aload_n F dX5_take_1 rfl ?_
  have n1 : q.2.2 &&& 1 ≤ 1 := Nat.and_le_right
  have n2 : n ^^^ (q.2.2 &&& 1) < 2 := Nat.xor_lt_two_pow (n := 1) (by omega) (by omega)
  have m1 : q.2.1 &&& M2 ≤ q.2.1 := Nat.and_le_left
  have m2 : q.2.2 &&& M2 ≤ q.2.2 := Nat.and_le_left
  refine jr_getLx F (q.2.2 : Int) dX5_take_2 fg_X5_31 (Nat.le_of_ble_eq_true rfl) rfl rfl a6 (fun q2 => ?_)
  refine jr_lconst (z := 1) F dX5_take_5 (by decide) ?_
  refine jr_land F dX5_take_6 ?_
  refine jr_topl (z := ((q.2.2 &&& 1 : Nat) : Int)) F (hl_and (b := 1) (by omega) (by omega)) ?_
  refine jr_lxor F dX5_take_7 ?_
  refine jr_topl (z := ((n ^^^ (q.2.2 &&& 1) : Nat) : Int)) F (hl_xor (by omega) (by omega)) ?_
  refine jr_lconst (z := 0) F dX5_take_8 (by decide) ?_
  refine jr_lcmp F dX5_take_9 ?_
  refine jr_top (z := cmpI ((n ^^^ (q.2.2 &&& 1) : Nat) : Int) 0) F (l64_cmp (by omega) (by omega)) ?_
  refine jr_if_ne (tgt := 25) F dX5_take_10 (by decide) (fun c10 => ?_) (fun c10 => ?_) (by have := cmpI_R ((n ^^^ (q.2.2 &&& 1) : Nat) : Int) 0; omega)
  · skip
    refine jr_aload_n F dX5_take_25 rfl ?_
    refine jr_dup F dX5_take_26 rfl ?_
    refine jr_getLx F (q.2.2 : Int) dX5_take_27 fg_X5_31 (Nat.le_of_ble_eq_true rfl) rfl rfl (by exact a6) (fun q27 => ?_)
    refine jr_ldc2 (z := -2) F dX5_take_30 (tb_in 596 (by decide +kernel) (by decide +kernel)) ?_
    refine jr_land F dX5_take_33 ?_
    refine jr_topl (z := ((q.2.2 &&& M2 : Nat) : Int)) F (hl_m2 (by omega)) ?_
    refine jr_putLx F dX5_take_34 fp_X5_31 (Nat.le_of_ble_eq_true rfl) rfl rfl (by omega) (fun w34 e34 => ?_)
    exact jr_vret F dX5_take_37 ⟨rfl, by rw [cmpI_0] at c10; subst e34; exact s17_of a4 (by rw [up_ne (by omega), a5]; unfold qT; rw [if_neg (by omega)]) (up_self _ _ _ _) (fun k i h => up_ne (by omega))⟩
  · skip
    refine jr_aload_n F dX5_take_13 rfl ?_
    refine jr_dup F dX5_take_14 rfl ?_
    refine jr_getLx F (q.2.1 : Int) dX5_take_15 fg_X5_28 (Nat.le_of_ble_eq_true rfl) rfl rfl a5 (fun q15 => ?_)
    refine jr_ldc2 (z := -2) F dX5_take_18 (tb_in 596 (by decide +kernel) (by decide +kernel)) ?_
    refine jr_land F dX5_take_21 ?_
    refine jr_topl (z := ((q.2.1 &&& M2 : Nat) : Int)) F (hl_m2 (by omega)) ?_
    refine jr_putLx F dX5_take_22 fp_X5_28 (Nat.le_of_ble_eq_true rfl) rfl rfl (by omega) (fun w22 e22 => ?_)
    refine jr_aload_n F dX5_take_25 rfl ?_
    refine jr_dup F dX5_take_26 rfl ?_
    refine jr_getLx F (q.2.2 : Int) dX5_take_27 fg_X5_31 (Nat.le_of_ble_eq_true rfl) rfl rfl (by subst e22; exact a6) (fun q27 => ?_)
    refine jr_ldc2 (z := -2) F dX5_take_30 (tb_in 596 (by decide +kernel) (by decide +kernel)) ?_
    refine jr_land F dX5_take_33 ?_
    refine jr_topl (z := ((q.2.2 &&& M2 : Nat) : Int)) F (hl_m2 (by omega)) ?_
    refine jr_putLx F dX5_take_34 fp_X5_31 (Nat.le_of_ble_eq_true rfl) rfl rfl (by omega) (fun w34_1 e34_1 => ?_)
    exact jr_vret F dX5_take_37 ⟨rfl, by rw [cmpI_0] at c10; subst e34_1; subst e22; exact s17_of a4 (by unfold qT; rw [if_pos (by omega)]; rfl) (up_self _ _ _ _) (fun k i h => by rw [up_ne (by omega), up_ne (by omega)])⟩

set_option maxRecDepth 100000 in
set_option maxHeartbeats 4000000 in
theorem c_X5_end {B : Bs} {w : Wd} {q : Q3} (hq : isQ w q) (hb : qlt q 61) : Sp (GX B) 0 yX5_end cX5_end 3 (Option.some FieldType.long) [.ref (ga (GX B) (17))] w (pL (s17 w (qH q)) (qV q : Nat)) := by
  refine Sp.of (by decide) (Nat.le_of_ble_eq_true rfl) (fun X F => ?_)
  obtain ⟨a4, a5, a6⟩ := hq
  obtain ⟨b4, b5, b6⟩ := q63 hb (by omega)
  have m1 : q.1 >>> 1 ≤ q.1 := by rw [Nat.shiftRight_eq_div_pow]; exact Nat.div_le_self _ _
  have m2 : q.2.1 >>> 1 ≤ q.2.1 := by rw [Nat.shiftRight_eq_div_pow]; exact Nat.div_le_self _ _
  have m3 : q.2.2 >>> 1 ≤ q.2.2 := by rw [Nat.shiftRight_eq_div_pow]; exact Nat.div_le_self _ _
  have m4 : q.1 ||| q.2.1 < 2 ^ 62 := Nat.or_lt_two_pow (by omega) (by omega)
  show Jw (GX B) X _ 0 [some (.ref (ga (GX B) (17)))] [] w
  refine jr_aload_n F dX5_end_0 rfl ?_
  refine jr_getLx F (q.1 : Int) dX5_end_1 fg_X5_24 (Nat.le_of_ble_eq_true rfl) rfl rfl a4 (fun q1 => ?_)
  refine jr_aload_n F dX5_end_4 rfl ?_
  refine jr_getLx F (q.2.1 : Int) dX5_end_5 fg_X5_28 (Nat.le_of_ble_eq_true rfl) rfl rfl a5 (fun q5 => ?_)
  refine jr_lor F dX5_end_8 ?_
  refine jr_topl (z := ((q.1 ||| q.2.1 : Nat) : Int)) F (hl_or (by omega) (by omega)) ?_
  refine jr_lconst (z := 1) F dX5_end_9 (by decide) ?_
  refine jr_land F dX5_end_10 ?_
  refine jr_topl (z := ((qV q : Nat) : Int)) F (hl_and (b := 1) (by omega) (by omega)) ?_
  refine jr_lstore_n F dX5_end_11 (Nat.le_of_ble_eq_true rfl) rfl ?_
  refine jr_aload_n F dX5_end_12 rfl ?_
  refine jr_dup F dX5_end_13 rfl ?_
  refine jr_getLx F (q.1 : Int) dX5_end_14 fg_X5_24 (Nat.le_of_ble_eq_true rfl) rfl rfl a4 (fun q14 => ?_)
  refine jr_iconst F dX5_end_17 ?_
  refine jr_lushr F dX5_end_18 ?_
  refine jr_topl (z := ((q.1 >>> 1 : Nat) : Int)) F (hl_shr (by omega)) ?_
  refine jr_putLx F dX5_end_19 fp_X5_24 (Nat.le_of_ble_eq_true rfl) rfl rfl (by omega) (fun w19 e19 => ?_)
  refine jr_aload_n F dX5_end_22 rfl ?_
  refine jr_dup F dX5_end_23 rfl ?_
  refine jr_getLx F (q.2.1 : Int) dX5_end_24 fg_X5_28 (Nat.le_of_ble_eq_true rfl) rfl rfl (by subst e19; exact a5) (fun q24 => ?_)
  refine jr_iconst F dX5_end_27 ?_
  refine jr_lushr F dX5_end_28 ?_
  refine jr_topl (z := ((q.2.1 >>> 1 : Nat) : Int)) F (hl_shr (by omega)) ?_
  refine jr_putLx F dX5_end_29 fp_X5_28 (Nat.le_of_ble_eq_true rfl) rfl rfl (by omega) (fun w29 e29 => ?_)
  refine jr_aload_n F dX5_end_32 rfl ?_
  refine jr_dup F dX5_end_33 rfl ?_
  refine jr_getLx F (q.2.2 : Int) dX5_end_34 fg_X5_31 (Nat.le_of_ble_eq_true rfl) rfl rfl (by subst e29; subst e19; exact a6) (fun q34 => ?_)
  refine jr_iconst F dX5_end_37 ?_
  refine jr_lushr F dX5_end_38 ?_
  refine jr_topl (z := ((q.2.2 >>> 1 : Nat) : Int)) F (hl_shr (by omega)) ?_
  refine jr_putLx F dX5_end_39 fp_X5_31 (Nat.le_of_ble_eq_true rfl) rfl rfl (by omega) (fun w39 e39 => ?_)
  refine jr_lload_n F dX5_end_42 rfl ?_
  exact jr_lret F dX5_end_43 ⟨rfl, (by subst e39; subst e29; subst e19; first | rfl | omega)⟩

