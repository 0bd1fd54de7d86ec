def ogw (m : Wd) : Wd := up (up (up (up m 0 25 (m 0 25 + 1)) 16 (m 0 25 + 1) 0) 17 (m 0 25 + 1) 1) 18 (m 0 25 + 1) 0
def fcw (m : Wd) (z : Int) : Wd := up (up m 17 (m 0 25) (if ¬ m 17 (m 0 25) = 0 ∧ ¬ z = m 18 (m 0 25) then 1 else 0)) 18 (m 0 25) 0
def plc (c : Int) : Int := if c = 108 then 0 else if c = 107 then 1 else if c = 110 then 2 else 3
theorem plc_R (c : Int) : 0 ≤ plc c ∧ plc c ≤ 3 := by unfold plc; (repeat' split) <;> omega
theorem plc_s (f : Int → Int) (c : Int) : f (plc c) = selv (f 0) (f 1) (f 2) (f 3) c := by unfold plc selv; (repeat' split) <;> rfl

set_option maxRecDepth 100000 in
set_option maxHeartbeats 4000000 in
theorem c_X8_openGroup {B : Bs} {m : Wd}  (hd : -1 ≤ m 0 25 ∧ m 0 25 ≤ 59) : Sp (GM B) 0 yX8_openGroup cX8_openGroup 1 (Option.none : Option FieldType) [.ref (ga (GM B) (0))] m (pV (ogw m)) := by
  refine Sp.of (by decide) (Nat.le_of_ble_eq_true rfl) (fun X F => ?_)
  show Jw (GM B) X _ 0 [some (.ref (ga (GM B) (0)))] [] m
  refine jr_aload_n F dX8_openGroup_0 rfl ?_
  refine jr_dup F dX8_openGroup_1 rfl ?_
  refine jr_getIx F (m 0 25) dX8_openGroup_2 fg_X8_163 (Nat.le_of_ble_eq_true rfl) rfl rfl rfl (fun q2 => ?_)
  refine jr_iconst F dX8_openGroup_5 ?_
  refine jr_iadd F dX8_openGroup_6 ?_
  refine jr_putIx F dX8_openGroup_7 fp_X8_163 (Nat.le_of_ble_eq_true rfl) rfl rfl (by omega) (fun w7 e7 => ?_)
  refine jr_aload_n F dX8_openGroup_10 rfl ?_
  refine jr_getR (t := 16) F dX8_openGroup_11 fg_X8_56 (Nat.le_of_ble_eq_true rfl) rfl rfl ?_
  refine jr_aload_n F dX8_openGroup_14 rfl ?_
  refine jr_getIx F (m 0 25 + 1) dX8_openGroup_15 fg_X8_163 (Nat.le_of_ble_eq_true rfl) rfl rfl (by subst e7; rfl) (fun q15 => ?_)
  refine jr_iconst F dX8_openGroup_18 ?_
  refine jr_zastx F dX8_openGroup_19 (Nat.le_of_ble_eq_true rfl) rfl (by omega) (fun w19 e19 => ?_) (by omega) (by omega) (by omega)
  refine jr_aload_n F dX8_openGroup_20 rfl ?_
  refine jr_getR (t := 17) F dX8_openGroup_21 fg_X8_60 (Nat.le_of_ble_eq_true rfl) rfl rfl ?_
  refine jr_aload_n F dX8_openGroup_24 rfl ?_
  refine jr_getIx F (m 0 25 + 1) dX8_openGroup_25 fg_X8_163 (Nat.le_of_ble_eq_true rfl) rfl rfl (by subst e19; subst e7; rfl) (fun q25 => ?_)
  refine jr_iconst F dX8_openGroup_28 ?_
  refine jr_zastx F dX8_openGroup_29 (Nat.le_of_ble_eq_true rfl) rfl (by omega) (fun w29 e29 => ?_) (by omega) (by omega) (by omega)
  refine jr_aload_n F dX8_openGroup_30 rfl ?_
  refine jr_getR (t := 18) F dX8_openGroup_31 fg_X8_63 (Nat.le_of_ble_eq_true rfl) rfl rfl ?_
  refine jr_aload_n F dX8_openGroup_34 rfl ?_
  refine jr_getIx F (m 0 25 + 1) dX8_openGroup_35 fg_X8_163 (Nat.le_of_ble_eq_true rfl) rfl rfl (by subst e29; subst e19; subst e7; rfl) (fun q35 => ?_)
  refine jr_iconst F dX8_openGroup_38 ?_
  refine jr_zastx F dX8_openGroup_39 (Nat.le_of_ble_eq_true rfl) rfl (by omega) (fun w39 e39 => ?_) (by omega) (by omega) (by omega)
  exact jr_vret F dX8_openGroup_40 ⟨rfl, (by subst e39; subst e29; subst e19; subst e7; first | rfl | omega)⟩

set_option maxRecDepth 100000 in
set_option maxHeartbeats 4000000 in
theorem c_X8_factor {B : Bs} {m : Wd} {z : Int} (hd : 0 ≤ m 0 25 ∧ m 0 25 ≤ 60) (hz : 0 ≤ z ∧ z ≤ 1) : Sp (GM B) 0 yX8_factor cX8_factor 2 (Option.none : Option FieldType) [.ref (ga (GM B) (0)), iv (z)] m (pV (fcw m z)) := by
  refine Sp.of (by decide) (Nat.le_of_ble_eq_true rfl) (fun X F => ?_)
  show Jw (GM B) X _ 0 [some (.ref (ga (GM B) (0))), some (iv (z))] [] m
  refine jr_aload_n F dX8_factor_0 rfl ?_
  refine jr_getR (t := 17) F dX8_factor_1 fg_X8_60 (Nat.le_of_ble_eq_true rfl) rfl rfl ?_
  refine jr_aload_n F dX8_factor_4 rfl ?_
  refine jr_getIx F (m 0 25) dX8_factor_5 fg_X8_163 (Nat.le_of_ble_eq_true rfl) rfl rfl rfl (fun q5 => ?_)
  refine jr_aload_n F dX8_factor_8 rfl ?_
  refine jr_getR (t := 17) F dX8_factor_9 fg_X8_60 (Nat.le_of_ble_eq_true rfl) rfl rfl ?_
  refine jr_aload_n F dX8_factor_12 rfl ?_
  refine jr_getIx F (m 0 25) dX8_factor_13 fg_X8_163 (Nat.le_of_ble_eq_true rfl) rfl rfl rfl (fun q13 => ?_)
  refine jr_zald F dX8_factor_16 (Nat.le_of_ble_eq_true rfl) rfl (by omega) (fun q16 => ?_) (by omega) (by omega)
  refine jr_if_eq (tgt := 37) F dX8_factor_17 (by decide) (fun c17 => ?_) (fun c17 => ?_) (by omega)
  · skip
    refine jr_iconst F dX8_factor_37 ?_
    refine jr_zastx F dX8_factor_38 (Nat.le_of_ble_eq_true rfl) rfl (by omega) (fun w38 e38 => ?_) (by omega) (by omega) (by omega)
    refine jr_aload_n F dX8_factor_39 rfl ?_
    refine jr_getR (t := 18) F dX8_factor_40 fg_X8_63 (Nat.le_of_ble_eq_true rfl) rfl rfl ?_
    refine jr_aload_n F dX8_factor_43 rfl ?_
    refine jr_getIx F (m 0 25) dX8_factor_44 fg_X8_163 (Nat.le_of_ble_eq_true rfl) rfl rfl (by subst e38; rfl) (fun q44 => ?_)
    refine jr_iconst F dX8_factor_47 ?_
    refine jr_zastx F dX8_factor_48 (Nat.le_of_ble_eq_true rfl) rfl (by omega) (fun w48 e48 => ?_) (by omega) (by omega) (by omega)
    exact jr_vret F dX8_factor_49 ⟨rfl, (by subst e48; subst e38; first | rfl | (unfold fcw; first | (rw [if_pos (by omega)]; done) | (rw [if_neg (by omega)]; done)))⟩
  · skip
    refine jr_iload_n F dX8_factor_20 rfl ?_
    refine jr_aload_n F dX8_factor_21 rfl ?_
    refine jr_getR (t := 18) F dX8_factor_22 fg_X8_63 (Nat.le_of_ble_eq_true rfl) rfl rfl ?_
    refine jr_aload_n F dX8_factor_25 rfl ?_
    refine jr_getIx F (m 0 25) dX8_factor_26 fg_X8_163 (Nat.le_of_ble_eq_true rfl) rfl rfl rfl (fun q26 => ?_)
    refine jr_zald F dX8_factor_29 (Nat.le_of_ble_eq_true rfl) rfl (by omega) (fun q29 => ?_) (by omega) (by omega)
    refine jr_icmp_eq (tgt := 37) F dX8_factor_30 (by decide) (fun c30 => ?_) (fun c30 => ?_) (by omega) (by omega)
    · skip
      refine jr_iconst F dX8_factor_37 ?_
      refine jr_zastx F dX8_factor_38 (Nat.le_of_ble_eq_true rfl) rfl (by omega) (fun w38_1 e38_1 => ?_) (by omega) (by omega) (by omega)
      refine jr_aload_n F dX8_factor_39 rfl ?_
      refine jr_getR (t := 18) F dX8_factor_40 fg_X8_63 (Nat.le_of_ble_eq_true rfl) rfl rfl ?_
      refine jr_aload_n F dX8_factor_43 rfl ?_
      refine jr_getIx F (m 0 25) dX8_factor_44 fg_X8_163 (Nat.le_of_ble_eq_true rfl) rfl rfl (by subst e38_1; rfl) (fun q44 => ?_)
      refine jr_iconst F dX8_factor_47 ?_
      refine jr_zastx F dX8_factor_48 (Nat.le_of_ble_eq_true rfl) rfl (by omega) (fun w48_1 e48_1 => ?_) (by omega) (by omega) (by omega)
      exact jr_vret F dX8_factor_49 ⟨rfl, (by subst e48_1; subst e38_1; first | rfl | (unfold fcw; first | (rw [if_pos (by omega)]; done) | (rw [if_neg (by omega)]; done)))⟩
    · skip
      refine jr_iconst F dX8_factor_33 ?_
      refine jr_goto (tgt := 38) F dX8_factor_34 (by decide) ?_
      refine jr_zastx F dX8_factor_38 (Nat.le_of_ble_eq_true rfl) rfl (by omega) (fun w38_2 e38_2 => ?_) (by omega) (by omega) (by omega)
      refine jr_aload_n F dX8_factor_39 rfl ?_
      refine jr_getR (t := 18) F dX8_factor_40 fg_X8_63 (Nat.le_of_ble_eq_true rfl) rfl rfl ?_
      refine jr_aload_n F dX8_factor_43 rfl ?_
      refine jr_getIx F (m 0 25) dX8_factor_44 fg_X8_163 (Nat.le_of_ble_eq_true rfl) rfl rfl (by subst e38_2; rfl) (fun q44 => ?_)
      refine jr_iconst F dX8_factor_47 ?_
      refine jr_zastx F dX8_factor_48 (Nat.le_of_ble_eq_true rfl) rfl (by omega) (fun w48_2 e48_2 => ?_) (by omega) (by omega) (by omega)
      exact jr_vret F dX8_factor_49 ⟨rfl, (by subst e48_2; subst e38_2; first | rfl | (unfold fcw; first | (rw [if_pos (by omega)]; done) | (rw [if_neg (by omega)]; done)))⟩

set_option maxRecDepth 100000 in
set_option maxHeartbeats 4000000 in
theorem c_X8_placeOf {B : Bs} {m : Wd} {c : Int} (hc : inR c) : Sp (GM B) 0 yX8_placeOf cX8_placeOf 1 (Option.some FieldType.int) [iv (c)] m (pI m (plc c)) := by
  refine Sp.of (by decide) (Nat.le_of_ble_eq_true rfl) (fun X F => ?_)
  show Jw (GM B) X _ 0 [some (iv (c))] [] m
  refine jr_iload_n F dX8_placeOf_0 rfl ?_
  refine jr_bipush F dX8_placeOf_1 (by decide) ?_
  refine jr_icmp_ne (tgt := 10) F dX8_placeOf_3 (by decide) (fun c3 => ?_) (fun c3 => ?_) (by omega) (by omega)
  · skip
    refine jr_iload_n F dX8_placeOf_10 rfl ?_
    refine jr_bipush F dX8_placeOf_11 (by decide) ?_
    refine jr_icmp_ne (tgt := 20) F dX8_placeOf_13 (by decide) (fun c13 => ?_) (fun c13 => ?_) (by omega) (by omega)
    · skip
      refine jr_iload_n F dX8_placeOf_20 rfl ?_
      refine jr_bipush F dX8_placeOf_21 (by decide) ?_
      refine jr_icmp_ne (tgt := 30) F dX8_placeOf_23 (by decide) (fun c23 => ?_) (fun c23 => ?_) (by omega) (by omega)
      · skip
        refine jr_iconst F dX8_placeOf_30 ?_
        exact jr_iret F dX8_placeOf_31 (pI_of (by unfold plc; (repeat' split) <;> first | rfl | omega) rfl)
      · skip
        refine jr_iconst F dX8_placeOf_26 ?_
        refine jr_goto (tgt := 31) F dX8_placeOf_27 (by decide) ?_
        exact jr_iret F dX8_placeOf_31 (pI_of (by unfold plc; (repeat' split) <;> first | rfl | omega) rfl)
    · skip
      refine jr_iconst F dX8_placeOf_16 ?_
      refine jr_goto (tgt := 31) F dX8_placeOf_17 (by decide) ?_
      exact jr_iret F dX8_placeOf_31 (pI_of (by unfold plc; (repeat' split) <;> first | rfl | omega) rfl)
  · skip
    refine jr_iconst F dX8_placeOf_6 ?_
    refine jr_goto (tgt := 31) F dX8_placeOf_7 (by decide) ?_
    exact jr_iret F dX8_placeOf_31 (pI_of (by unfold plc; (repeat' split) <;> first | rfl | omega) rfl)

theorem AR_c {u v : Wd} {q : Q3} {d : Int} (h16 : v 16 = u 16) (h17 : v 17 = u 17) (h18 : v 18 = u 18) (h : AR u q d) : AR v q d := by unfold AR; rw [h16, h17, h18]; exact h
/-- alike but for what conditions work with -/
def wk (m u : Wd) : Prop := (∀ k : Nat, k ≠ 0 → k ≠ 15 → k ≠ 16 → k ≠ 17 → k ≠ 18 → u k = m k) ∧ ∀ i : Int, i ≠ 25 → u 0 i = m 0 i
def wq (m u : Wd) : Prop := (∀ k : Nat, k ≠ 0 → k ≠ 16 → k ≠ 17 → k ≠ 18 → u k = m k) ∧ ∀ i : Int, i ≠ 25 → u 0 i = m 0 i
theorem wk_r (m : Wd) : wk m m := ⟨fun _ _ _ _ _ _ => rfl, fun _ _ => rfl⟩
theorem wq_r (m : Wd) : wq m m := ⟨fun _ _ _ _ _ => rfl, fun _ _ => rfl⟩
theorem wk_t {a b c : Wd} (h : wk a b) (g : wk b c) : wk a c := ⟨fun k p q r s t => (g.1 k p q r s t).trans (h.1 k p q r s t), fun i y => (g.2 i y).trans (h.2 i y)⟩
theorem wq_t {a b c : Wd} (h : wq a b) (g : wq b c) : wq a c := ⟨fun k p r s t => (g.1 k p r s t).trans (h.1 k p r s t), fun i y => (g.2 i y).trans (h.2 i y)⟩
theorem wq_k {m u : Wd} (h : wq m u) : wk m u := ⟨fun k a _ b c d => h.1 k a b c d, h.2⟩
theorem wk_sm {m u : Wd} (h : wk m u) : sm m u := ⟨fun k a b => h.1 k (by omega) (by omega) (by omega) (by omega) (by omega), h.2 0 (by omega), h.2 8 (by omega), h.2 11 (by omega), h.2 16 (by omega), h.2 18 (by omega)⟩
theorem wk_RM {w m u : Wd} (h : wk m u) (g : RM w m) : RM w u := sm_RM (wk_sm h) g
theorem wq_og {m u : Wd} (h : wq m u) : wq m (ogw u) := ⟨fun k a b c d => by unfold ogw; rw [up_cell d, up_cell c, up_cell b, up_cell a]; exact h.1 k a b c d, fun i y => by unfold ogw; rw [up_cell (by decide), up_cell (by decide), up_cell (by decide), up_ne (by omega)]; exact h.2 i y⟩
theorem wq_fc {m u : Wd} (h : wq m u) (z : Int) : wq m (fcw u z) := ⟨fun k a b c d => by unfold fcw; rw [up_cell d, up_cell c]; exact h.1 k a b c d, fun i y => by unfold fcw; rw [up_cell (by decide), up_cell (by decide)]; exact h.2 i y⟩
theorem wq_16 {m u : Wd} (h : wq m u) {k : Nat} (hk : k = 16 ∨ k = 17 ∨ k = 18) (i v : Int) : wq m (up u k i v) := ⟨fun c a b d e => by rw [up_cell (by omega)]; exact h.1 c a b d e, fun j y => by rw [up_cell (by omega)]; exact h.2 j y⟩
theorem wq_25 {m u : Wd} (h : wq m u) (v : Int) : wq m (up u 0 25 v) := ⟨fun c a b d e => by rw [up_cell a]; exact h.1 c a b d e, fun j y => by rw [up_ne (by omega)]; exact h.2 j y⟩
theorem AR_og {u : Wd} {q : Q3} {d : Int} (h : AR u q d) (hd : 0 ≤ d) (h25 : u 0 25 = d) : AR (ogw u) (qP q) (d + 1) ∧ ogw u 0 25 = d + 1 := by
  unfold ogw
  rw [h25]
  exact ⟨AR_P (AR_c (up_cell (by decide)) (up_cell (by decide)) (up_cell (by decide)) h) hd, rfl⟩
theorem AR_og0 {u : Wd} (h25 : u 0 25 = -1) : AR (ogw u) (0, 1, 0) 0 ∧ ogw u 0 25 = 0 := by
  unfold ogw
  rw [h25]
  exact ⟨AR_0 _, rfl⟩
theorem AR_fc {u : Wd} {q : Q3} {d z : Int} {n : Nat} (h : AR u q d) (hd : 0 ≤ d ∧ d ≤ 60) (h25 : u 0 25 = d) (hz : z = (n : Nat)) (hn : n ≤ 1) : AR (fcw u z) (qT n q) d ∧ fcw u z 0 25 = d := by
  unfold fcw
  rw [h25]
  exact ⟨AR_T h hd hz hn rfl, h25⟩
theorem cnd_c {L : Int → Int} {i s d : Int} (hs : s = 4 ∨ s = 7 ∨ s = 8) (h9 : ¬ tnx s (L i) d = 9) (h7 : s = 7 → ¬ (48 ≤ L i ∧ L i ≤ 57)) : (s = 4 ∧ (((L i = 33 ∨ L i = 40) ∧ tnx s (L i) d = 4) ∨ ((L i = 108 ∨ L i = 107 ∨ L i = 110 ∨ L i = 114) ∧ tnx s (L i) d = 5))) ∨ (¬ s = 4 ∧ ((L i = 41 ∧ 0 < d ∧ tnx s (L i) d = 8) ∨ ((L i = 124 ∨ L i = 38) ∧ tnx s (L i) d = 4))) := by
  rcases hs with rfl | hs
  · have := tn4 h9; omega
  · have := tn78 hs h9
    have : s = 7 → ¬ (48 ≤ L i ∧ L i ≤ 57) := h7
    omega
theorem VS_n {L : Int → Int} {e i s d s' d' : Int} (h : VS L e (i + 1) (tnx s (L i) d) (d + dep (L i))) (a : tnx s (L i) d = s') (b : d + dep (L i) = d') : VS L e (i + 1) s' d' := by rw [a, b] at h; exact h
theorem evL_n {o L : Int → Int} {e k : Int} {q : Q3} (h : ¬ L k = 33 ∧ ¬ L k = 40 ∧ ¬ L k = 41 ∧ ¬ L k = 124 ∧ ¬ L k = 60 ∧ ¬ L k = 61 ∧ ¬ L k = 62) : evL o L e k q = q := by
  unfold evL
  rw [if_neg h.1, if_neg h.2.1, if_neg h.2.2.1, if_neg h.2.2.2.1, if_neg (by omega)]
theorem evL_q {o L : Int → Int} {e k : Int} {q : Q3} (h : L k = 60 ∨ L k = 61 ∨ L k = 62) : evL o L e k q = qT (evC o L e k) q := by
  unfold evL
  rw [if_neg (by omega), if_neg (by omega), if_neg (by omega), if_neg (by omega), if_pos h]
/-- a name, a sign, one digit or two -/
theorem nm_st {o L : Int → Int} {e i d : Int} {q E : Q3} (hi : i < e) (hV : VS L e i 4 d) (hn : L i = 108 ∨ L i = 107 ∨ L i = 110 ∨ L i = 114) (hv : E = evS o L e (e - i).toNat i q) : i + 2 < e ∧ (60 ≤ L (i + 1) ∧ L (i + 1) ≤ 62) ∧ (48 ≤ L (i + 2) ∧ L (i + 2) ≤ 57) ∧
    ((i + 3 < e ∧ 48 ≤ L (i + 3) ∧ L (i + 3) ≤ 57) → VS L e (i + 4) 8 d ∧ E = evS o L e (e - (i + 4)).toNat (i + 4) (qT (evC o L e (i + 1)) q)) ∧
    (¬ (i + 3 < e ∧ 48 ≤ L (i + 3) ∧ L (i + 3) ≤ 57) → VS L e (i + 3) 7 d ∧ E = evS o L e (e - (i + 3)).toNat (i + 3) (qT (evC o L e (i + 1)) q)) := by
  have nz : ∀ j s : Int, VS L e j s d → j ≤ e → ¬ (s = 3 ∨ s = 7 ∨ s = 8) → j < e := by
    intro j s y hj hs
    rcases (show j < e ∨ j = e by omega) with z | z
    · exact z
    · subst z; exact absurd (VS_e y).1 hs
  have s0 := VS_s hi hV
  have t0 := tn4 s0.1
  have v1 := VS_n s0.2 (show tnx 4 (L i) d = 5 by omega) (show d + dep (L i) = d by rw [dep_0 (by omega) (by omega)]; omega)
  have l1 := nz _ _ v1 (by omega) (by omega)
  have s1 := VS_s l1 v1
  have t1 := tn5 s1.1
  have v2 := VS_n s1.2 t1.2 (show d + dep (L (i + 1)) = d by rw [dep_0 (by omega) (by omega)]; omega)
  have l2 := nz _ _ v2 (by omega) (by omega)
  have s2 := VS_s l2 v2
  have t2 := tn6 s2.1
  have v3 := VS_n s2.2 t2.2 (show d + dep (L (i + 1 + 1)) = d by rw [dep_0 (by omega) (by omega)]; omega)
  rw [show i + 1 + 1 = i + 2 by omega] at t2 l2 v3 s2
  rw [show i + 2 + 1 = i + 3 by omega] at v3
  have h1 : E = evS o L e (e - (i + 1)).toNat (i + 1) q := hv.trans (evS_s hi (evL_n (by omega)))
  have h2 : E = evS o L e (e - (i + 2)).toNat (i + 2) (qT (evC o L e (i + 1)) q) := by
    have y := h1.trans (evS_s l1 (evL_q (by omega)))
    rw [show i + 1 + 1 = i + 2 by omega] at y
    exact y
  have h3 : E = evS o L e (e - (i + 3)).toNat (i + 3) (qT (evC o L e (i + 1)) q) := by
    have y := h2.trans (evS_s l2 (evL_n (by omega)))
    rw [show i + 2 + 1 = i + 3 by omega] at y
    exact y
  refine ⟨l2, t1.1, t2.1, fun y => ?_, fun y => ⟨v3, h3⟩⟩
  have s3 := VS_s y.1 v3
  have t3 := tn78 (Or.inl rfl) s3.1
  have v4 := VS_n s3.2 (show tnx 7 (L (i + 3)) d = 8 by omega) (show d + dep (L (i + 3)) = d by rw [dep_0 (by omega) (by omega)]; omega)
  have h4 := h3.trans (evS_s y.1 (evL_n (by omega)))
  rw [show i + 3 + 1 = i + 4 by omega] at v4 h4
  exact ⟨v4, h4⟩
theorem evC_n {o L : Int → Int} {e i v : Int} (hv : v = numv (L (i + 2)) (if i + 3 < e then L (i + 3) else -1)) : evC o L e (i + 1) = (cmpv (o (L i)) (L (i + 1)) v).toNat := by
  unfold evC
  rw [hv, show i + 1 - 1 = i by omega, show i + 1 + 1 = i + 2 by omega, show i + 1 + 2 = i + 3 by omega]
theorem evR_3 (o L : Int → Int) : qV (evR o L 4 3) = 1 := by
  unfold evR
  rw [show ((3 : Int) - 4).toNat = 0 from rfl]
  unfold evS
  decide
theorem evC_1 {o L : Int → Int} {e k : Int} : evC o L e k ≤ 1 := by
  have := cmpv_R (o (L (k - 1))) (L k) (numv (L (k + 1)) (if k + 2 < e then L (k + 2) else -1))
  unfold evC; omega
theorem qlt_s {o L : Int → Int} {e i : Int} {q q' : Q3} (i4 : 4 ≤ i) (hb : qlt q ((i - 4).toNat + 1)) (hev : evL o L e i q = q') : qlt q' ((i + 1 - 4).toNat + 1) := by
  have := evL_lt (o := o) (L := L) (e := e) (k := i) hb
  rw [hev] at this
  rw [show (i + 1 - 4).toNat = (i - 4).toNat + 1 by omega]
  exact this

set_option maxRecDepth 100000 in
set_option maxHeartbeats 4000000 in
theorem c_X8_holds {B : Bs} {m : Wd} {t e : Int} {L : Int → Int} (ht : 0 ≤ t ∧ t ≤ 11) (he : m 13 t = e) (h60 : 3 ≤ e ∧ e ≤ 60) (hL : ∀ i : Int, 0 ≤ i → i < e → m 12 (60 * t + i) = L i) (hR : ∀ i : Int, 0 ≤ i → i < e → 0 ≤ L i ∧ L i ≤ 126) (hV0 : VS L e 0 0 0) : Sp (GM B) 1 yX8_holds cX8_holds 7 (Option.some FieldType.boolean) [.ref (ga (GM B) (0)), iv (t)] m (pB (qV (evR (selv (m 15 0) (m 15 1) (m 15 2) (m 15 3)) L 4 e) = 1) (fun u => wq m u)) := by
  refine Sp.of (by decide) (Nat.le_of_ble_eq_true rfl) (fun X F => ?_)
  have V4 := VS_4 (by omega) hV0
  show Jw (GM B) X _ 0 [some (.ref (ga (GM B) (0))), some (iv (t))] [] m
  refine jr_aload_n F dX8_holds_0 rfl ?_
  refine jr_getR (t := 13) F dX8_holds_1 fg_X8_47 (Nat.le_of_ble_eq_true rfl) rfl rfl ?_
  refine jr_iload_n F dX8_holds_4 rfl ?_
  refine jr_iald F dX8_holds_5 (Nat.le_of_ble_eq_true rfl) rfl (by omega) (fun q5 => ?_) (by omega) (by omega)
  refine jr_ti (b := e) he ?_
  refine jr_iconst F dX8_holds_6 ?_
  refine jr_icmp_ne (tgt := 12) F dX8_holds_7 (by decide) (fun c7 => ?_) (fun c7 => ?_) (by omega) (by omega)
  · skip
    have c7v := (V4.2.2.2.resolve_left c7).2
    have c7l := (V4.2.2.2.resolve_left c7).1
    refine jr_aload_n F dX8_holds_12 rfl ?_
    refine jr_iconst F dX8_holds_13 ?_
    refine jr_putIx F dX8_holds_14 fp_X8_163 (Nat.le_of_ble_eq_true rfl) rfl rfl (by omega) (fun w14 e14 => ?_)
    refine jr_aload_n F dX8_holds_17 rfl ?_
    refine jr_vVx F dX8_holds_18 cv_X8_166 (c_X8_openGroup (by rw [e14]; show -1 ≤ (-1 : Int) ∧ (-1 : Int) ≤ 59; omega)) (Nat.le_of_ble_eq_true rfl) rfl rfl rfl rfl (Nat.le_of_ble_eq_true rfl) (Nat.le_of_ble_eq_true rfl) rfl (Nat.le_of_ble_eq_true rfl) (fun w18 e18 => ?_)
    refine jr_iconst F dX8_holds_21 ?_
    refine jr_istore_n F dX8_holds_22 (Nat.le_of_ble_eq_true rfl) rfl ?_
    have L23 : ∀ (fuel : Nat) (u : Wd) (i : Int) (s : Int) (d : Int) (q : Q3), (e - i).toNat < fuel → (4 ≤ i ∧ i ≤ e) → (s = 4 ∨ s = 7 ∨ s = 8) → (0 ≤ d ∧ d ≤ i - 4) → (VS L e i s d) → (s = 7 → i < e → ¬ (48 ≤ L i ∧ L i ≤ 57)) → (wq m u) → (u 0 25 = d) → (AR u q d) → (qlt q ((i - 4).toNat + 1)) → (evR (selv (m 15 0) (m 15 1) (m 15 2) (m 15 3)) L 4 e = evS (selv (m 15 0) (m 15 1) (m 15 2) (m 15 3)) L e (e - i).toNat i q) → Jw (GM B) X (pB (qV (evR (selv (m 15 0) (m 15 1) (m 15 2) (m 15 3)) L 4 e) = 1) (fun u => wq m u)) 23 [some (.ref (ga (GM B) 0)), some (iv t), some (iv i)] [] u := by
      intro fuel
      induction fuel with
      | zero => intro u i s d q hfuel; exact absurd hfuel (Nat.not_lt_zero _)
      | succ fuel ih23 =>
          intro u i s d q hfuel i0 hs hd hV h7 hq h25 hA hb hv
          have u13 : u 13 = m 13 := hq.1 13 (by decide) (by decide) (by decide) (by decide)
          have u12 : u 12 = m 12 := hq.1 12 (by decide) (by decide) (by decide) (by decide)
          have u15 : u 15 = m 15 := hq.1 15 (by decide) (by decide) (by decide) (by decide)
          refine jr_iload_n F dX8_holds_23 rfl ?_
          refine jr_aload_n F dX8_holds_24 rfl ?_
          refine jr_getR (t := 13) F dX8_holds_25 fg_X8_47 (Nat.le_of_ble_eq_true rfl) rfl rfl ?_
          refine jr_iload_n F dX8_holds_28 rfl ?_
          refine jr_iald F dX8_holds_29 (Nat.le_of_ble_eq_true rfl) rfl (by omega) (fun q29 => ?_) (by omega) (by omega)
          refine jr_ti (b := e) (by rw [u13]; exact he) ?_
          refine jr_icmp_ge (tgt := 379) F dX8_holds_30 (by decide) (fun c30 => ?_) (fun c30 => ?_) (by omega) (by omega)
          · skip
            obtain rfl : i = e := by omega
            have ve := VS_e hV
            have d0 := ve.2
            rw [d0] at hA
            have qv := AR_V hA (by omega)
            have ee : evR (selv (m 15 0) (m 15 1) (m 15 2) (m 15 3)) L 4 i = q := by rw [hv, show (i - i).toNat = 0 by omega]; rfl
            refine jr_aload_n F dX8_holds_379 rfl ?_
            refine jr_getR (t := 16) F dX8_holds_380 fg_X8_56 (Nat.le_of_ble_eq_true rfl) rfl rfl ?_
            refine jr_iconst F dX8_holds_383 ?_
            refine jr_zald F dX8_holds_384 (Nat.le_of_ble_eq_true rfl) rfl (by omega) (fun q384 => ?_) (by omega) (by omega)
            refine jr_if_ne (tgt := 397) F dX8_holds_385 (by decide) (fun c385 => ?_) (fun c385 => ?_) (by omega)
            · skip
              refine jr_iconst F dX8_holds_397 ?_
              refine jr_goto (tgt := 402) F dX8_holds_398 (by decide) ?_
              first | exact jr_zret F dX8_holds_402 (pB_of (bi_t (by rw [ee]; omega)).symm hq) (by omega) | exact jr_zret F dX8_holds_402 (pB_of (bi_f (by rw [ee]; omega)).symm hq) (by omega)
            · skip
              refine jr_aload_n F dX8_holds_388 rfl ?_
              refine jr_getR (t := 17) F dX8_holds_389 fg_X8_60 (Nat.le_of_ble_eq_true rfl) rfl rfl ?_
              refine jr_iconst F dX8_holds_392 ?_
              refine jr_zald F dX8_holds_393 (Nat.le_of_ble_eq_true rfl) rfl (by omega) (fun q393 => ?_) (by omega) (by omega)
              refine jr_if_eq (tgt := 401) F dX8_holds_394 (by decide) (fun c394 => ?_) (fun c394 => ?_) (by omega)
              · skip
                refine jr_iconst F dX8_holds_401 ?_
                first | exact jr_zret F dX8_holds_402 (pB_of (bi_t (by rw [ee]; omega)).symm hq) (by omega) | exact jr_zret F dX8_holds_402 (pB_of (bi_f (by rw [ee]; omega)).symm hq) (by omega)
              · skip
                refine jr_iconst F dX8_holds_397 ?_
                refine jr_goto (tgt := 402) F dX8_holds_398 (by decide) ?_
                first | exact jr_zret F dX8_holds_402 (pB_of (bi_t (by rw [ee]; omega)).symm hq) (by omega) | exact jr_zret F dX8_holds_402 (pB_of (bi_f (by rw [ee]; omega)).symm hq) (by omega)
          · skip
            have li := hR i (by omega) (by omega)
            have st := VS_s (show i < e by omega) hV
            have K := cnd_c hs st.1 (fun y => h7 y (by omega))
            refine jr_aload_n F dX8_holds_33 rfl ?_
            refine jr_getR (t := 12) F dX8_holds_34 fg_X8_44 (Nat.le_of_ble_eq_true rfl) rfl rfl ?_
            refine jr_bipush F dX8_holds_37 (by decide) ?_
            refine jr_iload_n F dX8_holds_39 rfl ?_
            refine jr_imul F dX8_holds_40 ?_
            refine jr_iload_n F dX8_holds_41 rfl ?_
            refine jr_iadd F dX8_holds_42 ?_
            refine jr_bald F dX8_holds_43 (Nat.le_of_ble_eq_true rfl) rfl (by omega) (fun q43 => ?_) (by omega) (by omega)
            refine jr_ti (b := (L i)) (by rw [u12]; exact hL _ (by omega) (by omega)) ?_
            refine jr_istore_n F dX8_holds_44 (Nat.le_of_ble_eq_true rfl) rfl ?_
            refine jr_iinc F dX8_holds_45 rfl (Nat.le_of_ble_eq_true rfl) rfl ?_
            refine jr_iload_n F dX8_holds_48 rfl ?_
            refine jr_bipush F dX8_holds_49 (by decide) ?_
            refine jr_icmp_ne (tgt := 83) F dX8_holds_51 (by decide) (fun c51 => ?_) (fun c51 => ?_) (by omega) (by omega)
            · skip
              refine jr_iload_n F dX8_holds_83 rfl ?_
              refine jr_bipush F dX8_holds_84 (by decide) ?_
              refine jr_icmp_ne (tgt := 96) F dX8_holds_86 (by decide) (fun c86 => ?_) (fun c86 => ?_) (by omega) (by omega)
              · skip
                refine jr_iload_n F dX8_holds_96 rfl ?_
                refine jr_bipush F dX8_holds_97 (by decide) ?_
                refine jr_icmp_ne (tgt := 152) F dX8_holds_99 (by decide) (fun c99 => ?_) (fun c99 => ?_) (by omega) (by omega)
                · skip
                  refine jr_iload_n F dX8_holds_152 rfl ?_
                  refine jr_bipush F dX8_holds_153 (by decide) ?_
                  refine jr_icmp_ne (tgt := 209) F dX8_holds_155 (by decide) (fun c155 => ?_) (fun c155 => ?_) (by omega) (by omega)
                  · skip
                    refine jr_iload_n F dX8_holds_209 rfl ?_
                    refine jr_bipush F dX8_holds_210 (by decide) ?_
                    refine jr_icmp_eq (tgt := 376) F dX8_holds_212 (by decide) (fun c212 => ?_) (fun c212 => ?_) (by omega) (by omega)
                    · skip
                      refine jr_goto (tgt := 23) F dX8_holds_376 (by decide) ?_
                      exact jr_sub (ih23 _ (i + 1) 4 d q (by omega) (by omega) (by omega) (by omega) (VS_n st.2 (by omega) (by first | (rw [dep_1 (by omega)]; done) | (rw [dep_2 (by omega)]; omega) | (rw [dep_0 (by omega) (by omega)]; omega))) (fun y => by omega) (hq) (show AR u q d ∧ u 0 25 = d from ⟨hA, h25⟩).2 (show AR u q d ∧ u 0 25 = d from ⟨hA, h25⟩).1 (qlt_s i0.1 hb (evL_n (o := (selv (m 15 0) (m 15 1) (m 15 2) (m 15 3))) (L := L) (e := e) (k := i) (q := q) (by omega))) (by rw [hv]; exact evS_s (by omega) (evL_n (o := (selv (m 15 0) (m 15 1) (m 15 2) (m 15 3))) (L := L) (e := e) (k := i) (q := q) (by omega)))) ⟨rfl, rfl, rfl, trivial⟩
                    · skip
                      have s4 : s = 4 := by omega
                      have N := nm_st (o := (selv (m 15 0) (m 15 1) (m 15 2) (m 15 3))) (show i < e by omega) (s4 ▸ hV) (by omega) hv
                      have l1 := hR (i + 1) (by omega) (by omega)
                      have l2 := hR (i + 2) (by omega) (by omega)
                      have pR := plc_R (L i)
                      refine jr_aload_n F dX8_holds_215 rfl ?_
                      refine jr_getR (t := 12) F dX8_holds_216 fg_X8_44 (Nat.le_of_ble_eq_true rfl) rfl rfl ?_
                      refine jr_bipush F dX8_holds_219 (by decide) ?_
                      refine jr_iload_n F dX8_holds_221 rfl ?_
                      refine jr_imul F dX8_holds_222 ?_
                      refine jr_iload_n F dX8_holds_223 rfl ?_
                      refine jr_iadd F dX8_holds_224 ?_
                      refine jr_bald F dX8_holds_225 (Nat.le_of_ble_eq_true rfl) rfl (by omega) (fun q225 => ?_) (by omega) (by omega)
                      refine jr_ti (b := (L (i + 1))) (by rw [u12]; exact hL _ (by omega) (by omega)) ?_
                      refine jr_istore F dX8_holds_226 (Nat.le_of_ble_eq_true rfl) rfl ?_
                      refine jr_aload_n F dX8_holds_228 rfl ?_
                      refine jr_getR (t := 12) F dX8_holds_229 fg_X8_44 (Nat.le_of_ble_eq_true rfl) rfl rfl ?_
                      refine jr_bipush F dX8_holds_232 (by decide) ?_
                      refine jr_iload_n F dX8_holds_234 rfl ?_
                      refine jr_imul F dX8_holds_235 ?_
                      refine jr_iload_n F dX8_holds_236 rfl ?_
                      refine jr_iadd F dX8_holds_237 ?_
                      refine jr_iconst F dX8_holds_238 ?_
                      refine jr_iadd F dX8_holds_239 ?_
                      refine jr_bald F dX8_holds_240 (Nat.le_of_ble_eq_true rfl) rfl (by omega) (fun q240 => ?_) (by omega) (by omega)
                      refine jr_ti (b := (L (i + 2))) (by rw [u12, show 60 * t + (i + 1) + 1 = 60 * t + (i + 2) by omega]; exact hL _ (by omega) (by omega)) ?_
                      refine jr_bipush F dX8_holds_241 (by decide) ?_
                      refine jr_isub F dX8_holds_243 ?_
                      refine jr_istore F dX8_holds_244 (Nat.le_of_ble_eq_true rfl) rfl ?_
                      refine jr_iinc F dX8_holds_246 rfl (Nat.le_of_ble_eq_true rfl) rfl ?_
                      refine jr_iload_n F dX8_holds_249 rfl ?_
                      refine jr_aload_n F dX8_holds_250 rfl ?_
                      refine jr_getR (t := 13) F dX8_holds_251 fg_X8_47 (Nat.le_of_ble_eq_true rfl) rfl rfl ?_
                      refine jr_iload_n F dX8_holds_254 rfl ?_
                      refine jr_iald F dX8_holds_255 (Nat.le_of_ble_eq_true rfl) rfl (by omega) (fun q255 => ?_) (by omega) (by omega)
                      refine jr_ti (b := e) (by rw [u13]; exact he) ?_
                      refine jr_icmp_ge (tgt := 305) F dX8_holds_256 (by decide) (fun c256 => ?_) (fun c256 => ?_) (by omega) (by omega)
                      · skip
                        have hn : L (i + 2) - 48 = (numv (L (i + 2)) (if i + 3 < e then L (i + 3) else -1)) := by rw [show (if i + 3 < e then L (i + 3) else (-1 : Int)) = -1 from if_neg (by omega)]; unfold numv; rw [if_neg (by omega)]
                        have hE := evC_n (o := (selv (m 15 0) (m 15 1) (m 15 2) (m 15 3))) hn
                        refine jr_aload_n F dX8_holds_305 rfl ?_
                        refine jr_getR (t := 15) F dX8_holds_306 fg_X8_53 (Nat.le_of_ble_eq_true rfl) rfl rfl ?_
                        refine jr_iload_n F dX8_holds_309 rfl ?_
                        refine jr_sI F dX8_holds_310 cs_X8_173 (c_X8_placeOf (by omega)) rfl (Nat.le_of_ble_eq_true rfl) (Nat.le_of_ble_eq_true rfl) rfl (Nat.le_of_ble_eq_true rfl) ?_
                        refine jr_iald F dX8_holds_313 (Nat.le_of_ble_eq_true rfl) rfl (by omega) (fun q313 => ?_) (by omega) (by omega)
                        refine jr_ti (b := ((selv (m 15 0) (m 15 1) (m 15 2) (m 15 3)) (L i))) (by rw [u15]; exact plc_s (m 15) (L i)) ?_
                        have z313 : u 15 (plc (L i)) = (selv (m 15 0) (m 15 1) (m 15 2) (m 15 3)) (L i) := by rw [u15]; exact plc_s (m 15) (L i)
                        rw [z313] at q313
                        refine jr_istore F dX8_holds_314 (Nat.le_of_ble_eq_true rfl) rfl ?_
                        refine jr_aload_n F dX8_holds_316 rfl ?_
                        refine jr_iload F dX8_holds_317 rfl ?_
                        refine jr_bipush F dX8_holds_319 (by decide) ?_
                        refine jr_icmp_ne (tgt := 339) F dX8_holds_321 (by decide) (fun c321 => ?_) (fun c321 => ?_) (by omega) (by omega)
                        · skip
                          refine jr_iload F dX8_holds_339 rfl ?_
                          refine jr_bipush F dX8_holds_341 (by decide) ?_
                          refine jr_icmp_ne (tgt := 361) F dX8_holds_343 (by decide) (fun c343 => ?_) (fun c343 => ?_) (by omega) (by omega)
                          · skip
                            refine jr_iload F dX8_holds_361 rfl ?_
                            refine jr_iload F dX8_holds_363 rfl ?_
                            refine jr_icmp_le (tgt := 372) F dX8_holds_365 (by decide) (fun c365 => ?_) (fun c365 => ?_) (by omega) (by omega)
                            · skip
                              refine jr_iconst F dX8_holds_372 ?_
                              refine jr_vVx F dX8_holds_373 cv_X8_169 (c_X8_factor (by omega) (by omega)) (Nat.le_of_ble_eq_true rfl) rfl rfl rfl rfl (Nat.le_of_ble_eq_true rfl) (Nat.le_of_ble_eq_true rfl) rfl (Nat.le_of_ble_eq_true rfl) (fun w373 e373 => ?_)
                              refine jr_goto (tgt := 23) F dX8_holds_376 (by decide) ?_
                              exact jr_sub (ih23 _ (i + 3) 7 d (qT (evC (selv (m 15 0) (m 15 1) (m 15 2) (m 15 3)) L e (i + 1)) q) (by omega) (by omega) (by omega) (by omega) ((N.2.2.2.2 (by omega)).1) (fun y y1 => by omega) (by rw [e373]; exact wq_fc hq _) (show AR w373 (qT (evC (selv (m 15 0) (m 15 1) (m 15 2) (m 15 3)) L e (i + 1)) q) d ∧ w373 0 25 = d from by rw [e373]; exact AR_fc hA (by omega) h25 (by rw [hE]; unfold cmpv; (repeat' split) <;> omega) evC_1).2 (show AR w373 (qT (evC (selv (m 15 0) (m 15 1) (m 15 2) (m 15 3)) L e (i + 1)) q) d ∧ w373 0 25 = d from by rw [e373]; exact AR_fc hA (by omega) h25 (by rw [hE]; unfold cmpv; (repeat' split) <;> omega) evC_1).1 (qlt_up (qlt_T hb) (by omega)) ((N.2.2.2.2 (by omega)).2)) ⟨rfl, rfl, by rw [show i + 3 = i + 1 + 2 by omega]; rfl, trivial⟩
                            · skip
                              refine jr_iconst F dX8_holds_368 ?_
                              refine jr_goto (tgt := 373) F dX8_holds_369 (by decide) ?_
                              refine jr_vVx F dX8_holds_373 cv_X8_169 (c_X8_factor (by omega) (by omega)) (Nat.le_of_ble_eq_true rfl) rfl rfl rfl rfl (Nat.le_of_ble_eq_true rfl) (Nat.le_of_ble_eq_true rfl) rfl (Nat.le_of_ble_eq_true rfl) (fun w373_1 e373_1 => ?_)
                              refine jr_goto (tgt := 23) F dX8_holds_376 (by decide) ?_
                              exact jr_sub (ih23 _ (i + 3) 7 d (qT (evC (selv (m 15 0) (m 15 1) (m 15 2) (m 15 3)) L e (i + 1)) q) (by omega) (by omega) (by omega) (by omega) ((N.2.2.2.2 (by omega)).1) (fun y y1 => by omega) (by rw [e373_1]; exact wq_fc hq _) (show AR w373_1 (qT (evC (selv (m 15 0) (m 15 1) (m 15 2) (m 15 3)) L e (i + 1)) q) d ∧ w373_1 0 25 = d from by rw [e373_1]; exact AR_fc hA (by omega) h25 (by rw [hE]; unfold cmpv; (repeat' split) <;> omega) evC_1).2 (show AR w373_1 (qT (evC (selv (m 15 0) (m 15 1) (m 15 2) (m 15 3)) L e (i + 1)) q) d ∧ w373_1 0 25 = d from by rw [e373_1]; exact AR_fc hA (by omega) h25 (by rw [hE]; unfold cmpv; (repeat' split) <;> omega) evC_1).1 (qlt_up (qlt_T hb) (by omega)) ((N.2.2.2.2 (by omega)).2)) ⟨rfl, rfl, by rw [show i + 3 = i + 1 + 2 by omega]; rfl, trivial⟩
                          · skip
                            refine jr_iload F dX8_holds_346 rfl ?_
                            refine jr_iload F dX8_holds_348 rfl ?_
                            refine jr_icmp_ne (tgt := 357) F dX8_holds_350 (by decide) (fun c350 => ?_) (fun c350 => ?_) (by omega) (by omega)
                            · skip
                              refine jr_iconst F dX8_holds_357 ?_
                              refine jr_goto (tgt := 373) F dX8_holds_358 (by decide) ?_
                              refine jr_vVx F dX8_holds_373 cv_X8_169 (c_X8_factor (by omega) (by omega)) (Nat.le_of_ble_eq_true rfl) rfl rfl rfl rfl (Nat.le_of_ble_eq_true rfl) (Nat.le_of_ble_eq_true rfl) rfl (Nat.le_of_ble_eq_true rfl) (fun w373_2 e373_2 => ?_)
                              refine jr_goto (tgt := 23) F dX8_holds_376 (by decide) ?_
                              exact jr_sub (ih23 _ (i + 3) 7 d (qT (evC (selv (m 15 0) (m 15 1) (m 15 2) (m 15 3)) L e (i + 1)) q) (by omega) (by omega) (by omega) (by omega) ((N.2.2.2.2 (by omega)).1) (fun y y1 => by omega) (by rw [e373_2]; exact wq_fc hq _) (show AR w373_2 (qT (evC (selv (m 15 0) (m 15 1) (m 15 2) (m 15 3)) L e (i + 1)) q) d ∧ w373_2 0 25 = d from by rw [e373_2]; exact AR_fc hA (by omega) h25 (by rw [hE]; unfold cmpv; (repeat' split) <;> omega) evC_1).2 (show AR w373_2 (qT (evC (selv (m 15 0) (m 15 1) (m 15 2) (m 15 3)) L e (i + 1)) q) d ∧ w373_2 0 25 = d from by rw [e373_2]; exact AR_fc hA (by omega) h25 (by rw [hE]; unfold cmpv; (repeat' split) <;> omega) evC_1).1 (qlt_up (qlt_T hb) (by omega)) ((N.2.2.2.2 (by omega)).2)) ⟨rfl, rfl, by rw [show i + 3 = i + 1 + 2 by omega]; rfl, trivial⟩
                            · skip
                              refine jr_iconst F dX8_holds_353 ?_
                              refine jr_goto (tgt := 373) F dX8_holds_354 (by decide) ?_
                              refine jr_vVx F dX8_holds_373 cv_X8_169 (c_X8_factor (by omega) (by omega)) (Nat.le_of_ble_eq_true rfl) rfl rfl rfl rfl (Nat.le_of_ble_eq_true rfl) (Nat.le_of_ble_eq_true rfl) rfl (Nat.le_of_ble_eq_true rfl) (fun w373_3 e373_3 => ?_)
                              refine jr_goto (tgt := 23) F dX8_holds_376 (by decide) ?_
                              exact jr_sub (ih23 _ (i + 3) 7 d (qT (evC (selv (m 15 0) (m 15 1) (m 15 2) (m 15 3)) L e (i + 1)) q) (by omega) (by omega) (by omega) (by omega) ((N.2.2.2.2 (by omega)).1) (fun y y1 => by omega) (by rw [e373_3]; exact wq_fc hq _) (show AR w373_3 (qT (evC (selv (m 15 0) (m 15 1) (m 15 2) (m 15 3)) L e (i + 1)) q) d ∧ w373_3 0 25 = d from by rw [e373_3]; exact AR_fc hA (by omega) h25 (by rw [hE]; unfold cmpv; (repeat' split) <;> omega) evC_1).2 (show AR w373_3 (qT (evC (selv (m 15 0) (m 15 1) (m 15 2) (m 15 3)) L e (i + 1)) q) d ∧ w373_3 0 25 = d from by rw [e373_3]; exact AR_fc hA (by omega) h25 (by rw [hE]; unfold cmpv; (repeat' split) <;> omega) evC_1).1 (qlt_up (qlt_T hb) (by omega)) ((N.2.2.2.2 (by omega)).2)) ⟨rfl, rfl, by rw [show i + 3 = i + 1 + 2 by omega]; rfl, trivial⟩
                        · skip
                          refine jr_iload F dX8_holds_324 rfl ?_
                          refine jr_iload F dX8_holds_326 rfl ?_
                          refine jr_icmp_ge (tgt := 335) F dX8_holds_328 (by decide) (fun c328 => ?_) (fun c328 => ?_) (by omega) (by omega)
                          · skip
                            refine jr_iconst F dX8_holds_335 ?_
                            refine jr_goto (tgt := 373) F dX8_holds_336 (by decide) ?_
                            refine jr_vVx F dX8_holds_373 cv_X8_169 (c_X8_factor (by omega) (by omega)) (Nat.le_of_ble_eq_true rfl) rfl rfl rfl rfl (Nat.le_of_ble_eq_true rfl) (Nat.le_of_ble_eq_true rfl) rfl (Nat.le_of_ble_eq_true rfl) (fun w373_4 e373_4 => ?_)
                            refine jr_goto (tgt := 23) F dX8_holds_376 (by decide) ?_
                            exact jr_sub (ih23 _ (i + 3) 7 d (qT (evC (selv (m 15 0) (m 15 1) (m 15 2) (m 15 3)) L e (i + 1)) q) (by omega) (by omega) (by omega) (by omega) ((N.2.2.2.2 (by omega)).1) (fun y y1 => by omega) (by rw [e373_4]; exact wq_fc hq _) (show AR w373_4 (qT (evC (selv (m 15 0) (m 15 1) (m 15 2) (m 15 3)) L e (i + 1)) q) d ∧ w373_4 0 25 = d from by rw [e373_4]; exact AR_fc hA (by omega) h25 (by rw [hE]; unfold cmpv; (repeat' split) <;> omega) evC_1).2 (show AR w373_4 (qT (evC (selv (m 15 0) (m 15 1) (m 15 2) (m 15 3)) L e (i + 1)) q) d ∧ w373_4 0 25 = d from by rw [e373_4]; exact AR_fc hA (by omega) h25 (by rw [hE]; unfold cmpv; (repeat' split) <;> omega) evC_1).1 (qlt_up (qlt_T hb) (by omega)) ((N.2.2.2.2 (by omega)).2)) ⟨rfl, rfl, by rw [show i + 3 = i + 1 + 2 by omega]; rfl, trivial⟩
                          · skip
                            refine jr_iconst F dX8_holds_331 ?_
                            refine jr_goto (tgt := 373) F dX8_holds_332 (by decide) ?_
                            refine jr_vVx F dX8_holds_373 cv_X8_169 (c_X8_factor (by omega) (by omega)) (Nat.le_of_ble_eq_true rfl) rfl rfl rfl rfl (Nat.le_of_ble_eq_true rfl) (Nat.le_of_ble_eq_true rfl) rfl (Nat.le_of_ble_eq_true rfl) (fun w373_5 e373_5 => ?_)
                            refine jr_goto (tgt := 23) F dX8_holds_376 (by decide) ?_
                            exact jr_sub (ih23 _ (i + 3) 7 d (qT (evC (selv (m 15 0) (m 15 1) (m 15 2) (m 15 3)) L e (i + 1)) q) (by omega) (by omega) (by omega) (by omega) ((N.2.2.2.2 (by omega)).1) (fun y y1 => by omega) (by rw [e373_5]; exact wq_fc hq _) (show AR w373_5 (qT (evC (selv (m 15 0) (m 15 1) (m 15 2) (m 15 3)) L e (i + 1)) q) d ∧ w373_5 0 25 = d from by rw [e373_5]; exact AR_fc hA (by omega) h25 (by rw [hE]; unfold cmpv; (repeat' split) <;> omega) evC_1).2 (show AR w373_5 (qT (evC (selv (m 15 0) (m 15 1) (m 15 2) (m 15 3)) L e (i + 1)) q) d ∧ w373_5 0 25 = d from by rw [e373_5]; exact AR_fc hA (by omega) h25 (by rw [hE]; unfold cmpv; (repeat' split) <;> omega) evC_1).1 (qlt_up (qlt_T hb) (by omega)) ((N.2.2.2.2 (by omega)).2)) ⟨rfl, rfl, by rw [show i + 3 = i + 1 + 2 by omega]; rfl, trivial⟩
                      · skip
                        have l3 := hR (i + 3) (by omega) (by omega)
                        refine jr_aload_n F dX8_holds_259 rfl ?_
                        refine jr_getR (t := 12) F dX8_holds_260 fg_X8_44 (Nat.le_of_ble_eq_true rfl) rfl rfl ?_
                        refine jr_bipush F dX8_holds_263 (by decide) ?_
                        refine jr_iload_n F dX8_holds_265 rfl ?_
                        refine jr_imul F dX8_holds_266 ?_
                        refine jr_iload_n F dX8_holds_267 rfl ?_
                        refine jr_iadd F dX8_holds_268 ?_
                        refine jr_bald F dX8_holds_269 (Nat.le_of_ble_eq_true rfl) rfl (by omega) (fun q269 => ?_) (by omega) (by omega)
                        refine jr_ti (b := (L (i + 3))) (by rw [u12, show 60 * t + (i + 1 + 2) = 60 * t + (i + 3) by omega]; exact hL _ (by omega) (by omega)) ?_
                        refine jr_bipush F dX8_holds_270 (by decide) ?_
                        refine jr_bipush F dX8_holds_272 (by decide) ?_
                        refine jr_sI F dX8_holds_274 cs_X8_88 (c_X8_lies (by omega) (by omega) (by omega)) rfl (Nat.le_of_ble_eq_true rfl) (Nat.le_of_ble_eq_true rfl) rfl (Nat.le_of_ble_eq_true rfl) ?_
                        refine jr_ifeq_b (tgt := 305) F dX8_holds_277 (by decide) (fun c277 => ?_) (fun c277 => ?_)
                        · skip
                          have hn : L (i + 2) - 48 = (numv (L (i + 2)) (if i + 3 < e then L (i + 3) else -1)) := by rw [show (if i + 3 < e then L (i + 3) else (-1 : Int)) = L (i + 3) from if_pos (by omega)]; unfold numv; rw [if_neg (by omega)]
                          have hE := evC_n (o := (selv (m 15 0) (m 15 1) (m 15 2) (m 15 3))) hn
                          refine jr_aload_n F dX8_holds_305 rfl ?_
                          refine jr_getR (t := 15) F dX8_holds_306 fg_X8_53 (Nat.le_of_ble_eq_true rfl) rfl rfl ?_
                          refine jr_iload_n F dX8_holds_309 rfl ?_
                          refine jr_sI F dX8_holds_310 cs_X8_173 (c_X8_placeOf (by omega)) rfl (Nat.le_of_ble_eq_true rfl) (Nat.le_of_ble_eq_true rfl) rfl (Nat.le_of_ble_eq_true rfl) ?_
                          refine jr_iald F dX8_holds_313 (Nat.le_of_ble_eq_true rfl) rfl (by omega) (fun q313 => ?_) (by omega) (by omega)
                          refine jr_ti (b := ((selv (m 15 0) (m 15 1) (m 15 2) (m 15 3)) (L i))) (by rw [u15]; exact plc_s (m 15) (L i)) ?_
                          have z313 : u 15 (plc (L i)) = (selv (m 15 0) (m 15 1) (m 15 2) (m 15 3)) (L i) := by rw [u15]; exact plc_s (m 15) (L i)
                          rw [z313] at q313
                          refine jr_istore F dX8_holds_314 (Nat.le_of_ble_eq_true rfl) rfl ?_
                          refine jr_aload_n F dX8_holds_316 rfl ?_
                          refine jr_iload F dX8_holds_317 rfl ?_
                          refine jr_bipush F dX8_holds_319 (by decide) ?_
                          refine jr_icmp_ne (tgt := 339) F dX8_holds_321 (by decide) (fun c321 => ?_) (fun c321 => ?_) (by omega) (by omega)
                          · skip
                            refine jr_iload F dX8_holds_339 rfl ?_
                            refine jr_bipush F dX8_holds_341 (by decide) ?_
                            refine jr_icmp_ne (tgt := 361) F dX8_holds_343 (by decide) (fun c343 => ?_) (fun c343 => ?_) (by omega) (by omega)
                            · skip
                              refine jr_iload F dX8_holds_361 rfl ?_
                              refine jr_iload F dX8_holds_363 rfl ?_
                              refine jr_icmp_le (tgt := 372) F dX8_holds_365 (by decide) (fun c365 => ?_) (fun c365 => ?_) (by omega) (by omega)
                              · skip
                                refine jr_iconst F dX8_holds_372 ?_
                                refine jr_vVx F dX8_holds_373 cv_X8_169 (c_X8_factor (by omega) (by omega)) (Nat.le_of_ble_eq_true rfl) rfl rfl rfl rfl (Nat.le_of_ble_eq_true rfl) (Nat.le_of_ble_eq_true rfl) rfl (Nat.le_of_ble_eq_true rfl) (fun w373_6 e373_6 => ?_)
                                refine jr_goto (tgt := 23) F dX8_holds_376 (by decide) ?_
                                exact jr_sub (ih23 _ (i + 3) 7 d (qT (evC (selv (m 15 0) (m 15 1) (m 15 2) (m 15 3)) L e (i + 1)) q) (by omega) (by omega) (by omega) (by omega) ((N.2.2.2.2 (by omega)).1) (fun y y1 => by omega) (by rw [e373_6]; exact wq_fc hq _) (show AR w373_6 (qT (evC (selv (m 15 0) (m 15 1) (m 15 2) (m 15 3)) L e (i + 1)) q) d ∧ w373_6 0 25 = d from by rw [e373_6]; exact AR_fc hA (by omega) h25 (by rw [hE]; unfold cmpv; (repeat' split) <;> omega) evC_1).2 (show AR w373_6 (qT (evC (selv (m 15 0) (m 15 1) (m 15 2) (m 15 3)) L e (i + 1)) q) d ∧ w373_6 0 25 = d from by rw [e373_6]; exact AR_fc hA (by omega) h25 (by rw [hE]; unfold cmpv; (repeat' split) <;> omega) evC_1).1 (qlt_up (qlt_T hb) (by omega)) ((N.2.2.2.2 (by omega)).2)) ⟨rfl, rfl, by rw [show i + 3 = i + 1 + 2 by omega]; rfl, trivial⟩
                              · skip
                                refine jr_iconst F dX8_holds_368 ?_
                                refine jr_goto (tgt := 373) F dX8_holds_369 (by decide) ?_
                                refine jr_vVx F dX8_holds_373 cv_X8_169 (c_X8_factor (by omega) (by omega)) (Nat.le_of_ble_eq_true rfl) rfl rfl rfl rfl (Nat.le_of_ble_eq_true rfl) (Nat.le_of_ble_eq_true rfl) rfl (Nat.le_of_ble_eq_true rfl) (fun w373_7 e373_7 => ?_)
                                refine jr_goto (tgt := 23) F dX8_holds_376 (by decide) ?_
                                exact jr_sub (ih23 _ (i + 3) 7 d (qT (evC (selv (m 15 0) (m 15 1) (m 15 2) (m 15 3)) L e (i + 1)) q) (by omega) (by omega) (by omega) (by omega) ((N.2.2.2.2 (by omega)).1) (fun y y1 => by omega) (by rw [e373_7]; exact wq_fc hq _) (show AR w373_7 (qT (evC (selv (m 15 0) (m 15 1) (m 15 2) (m 15 3)) L e (i + 1)) q) d ∧ w373_7 0 25 = d from by rw [e373_7]; exact AR_fc hA (by omega) h25 (by rw [hE]; unfold cmpv; (repeat' split) <;> omega) evC_1).2 (show AR w373_7 (qT (evC (selv (m 15 0) (m 15 1) (m 15 2) (m 15 3)) L e (i + 1)) q) d ∧ w373_7 0 25 = d from by rw [e373_7]; exact AR_fc hA (by omega) h25 (by rw [hE]; unfold cmpv; (repeat' split) <;> omega) evC_1).1 (qlt_up (qlt_T hb) (by omega)) ((N.2.2.2.2 (by omega)).2)) ⟨rfl, rfl, by rw [show i + 3 = i + 1 + 2 by omega]; rfl, trivial⟩
                            · skip
                              refine jr_iload F dX8_holds_346 rfl ?_
                              refine jr_iload F dX8_holds_348 rfl ?_
                              refine jr_icmp_ne (tgt := 357) F dX8_holds_350 (by decide) (fun c350 => ?_) (fun c350 => ?_) (by omega) (by omega)
                              · skip
                                refine jr_iconst F dX8_holds_357 ?_
                                refine jr_goto (tgt := 373) F dX8_holds_358 (by decide) ?_
                                refine jr_vVx F dX8_holds_373 cv_X8_169 (c_X8_factor (by omega) (by omega)) (Nat.le_of_ble_eq_true rfl) rfl rfl rfl rfl (Nat.le_of_ble_eq_true rfl) (Nat.le_of_ble_eq_true rfl) rfl (Nat.le_of_ble_eq_true rfl) (fun w373_8 e373_8 => ?_)
                                refine jr_goto (tgt := 23) F dX8_holds_376 (by decide) ?_
                                exact jr_sub (ih23 _ (i + 3) 7 d (qT (evC (selv (m 15 0) (m 15 1) (m 15 2) (m 15 3)) L e (i + 1)) q) (by omega) (by omega) (by omega) (by omega) ((N.2.2.2.2 (by omega)).1) (fun y y1 => by omega) (by rw [e373_8]; exact wq_fc hq _) (show AR w373_8 (qT (evC (selv (m 15 0) (m 15 1) (m 15 2) (m 15 3)) L e (i + 1)) q) d ∧ w373_8 0 25 = d from by rw [e373_8]; exact AR_fc hA (by omega) h25 (by rw [hE]; unfold cmpv; (repeat' split) <;> omega) evC_1).2 (show AR w373_8 (qT (evC (selv (m 15 0) (m 15 1) (m 15 2) (m 15 3)) L e (i + 1)) q) d ∧ w373_8 0 25 = d from by rw [e373_8]; exact AR_fc hA (by omega) h25 (by rw [hE]; unfold cmpv; (repeat' split) <;> omega) evC_1).1 (qlt_up (qlt_T hb) (by omega)) ((N.2.2.2.2 (by omega)).2)) ⟨rfl, rfl, by rw [show i + 3 = i + 1 + 2 by omega]; rfl, trivial⟩
                              · skip
                                refine jr_iconst F dX8_holds_353 ?_
                                refine jr_goto (tgt := 373) F dX8_holds_354 (by decide) ?_
                                refine jr_vVx F dX8_holds_373 cv_X8_169 (c_X8_factor (by omega) (by omega)) (Nat.le_of_ble_eq_true rfl) rfl rfl rfl rfl (Nat.le_of_ble_eq_true rfl) (Nat.le_of_ble_eq_true rfl) rfl (Nat.le_of_ble_eq_true rfl) (fun w373_9 e373_9 => ?_)
                                refine jr_goto (tgt := 23) F dX8_holds_376 (by decide) ?_
                                exact jr_sub (ih23 _ (i + 3) 7 d (qT (evC (selv (m 15 0) (m 15 1) (m 15 2) (m 15 3)) L e (i + 1)) q) (by omega) (by omega) (by omega) (by omega) ((N.2.2.2.2 (by omega)).1) (fun y y1 => by omega) (by rw [e373_9]; exact wq_fc hq _) (show AR w373_9 (qT (evC (selv (m 15 0) (m 15 1) (m 15 2) (m 15 3)) L e (i + 1)) q) d ∧ w373_9 0 25 = d from by rw [e373_9]; exact AR_fc hA (by omega) h25 (by rw [hE]; unfold cmpv; (repeat' split) <;> omega) evC_1).2 (show AR w373_9 (qT (evC (selv (m 15 0) (m 15 1) (m 15 2) (m 15 3)) L e (i + 1)) q) d ∧ w373_9 0 25 = d from by rw [e373_9]; exact AR_fc hA (by omega) h25 (by rw [hE]; unfold cmpv; (repeat' split) <;> omega) evC_1).1 (qlt_up (qlt_T hb) (by omega)) ((N.2.2.2.2 (by omega)).2)) ⟨rfl, rfl, by rw [show i + 3 = i + 1 + 2 by omega]; rfl, trivial⟩
                          · skip
                            refine jr_iload F dX8_holds_324 rfl ?_
                            refine jr_iload F dX8_holds_326 rfl ?_
                            refine jr_icmp_ge (tgt := 335) F dX8_holds_328 (by decide) (fun c328 => ?_) (fun c328 => ?_) (by omega) (by omega)
                            · skip
                              refine jr_iconst F dX8_holds_335 ?_
                              refine jr_goto (tgt := 373) F dX8_holds_336 (by decide) ?_
                              refine jr_vVx F dX8_holds_373 cv_X8_169 (c_X8_factor (by omega) (by omega)) (Nat.le_of_ble_eq_true rfl) rfl rfl rfl rfl (Nat.le_of_ble_eq_true rfl) (Nat.le_of_ble_eq_true rfl) rfl (Nat.le_of_ble_eq_true rfl) (fun w373_10 e373_10 => ?_)
                              refine jr_goto (tgt := 23) F dX8_holds_376 (by decide) ?_
                              exact jr_sub (ih23 _ (i + 3) 7 d (qT (evC (selv (m 15 0) (m 15 1) (m 15 2) (m 15 3)) L e (i + 1)) q) (by omega) (by omega) (by omega) (by omega) ((N.2.2.2.2 (by omega)).1) (fun y y1 => by omega) (by rw [e373_10]; exact wq_fc hq _) (show AR w373_10 (qT (evC (selv (m 15 0) (m 15 1) (m 15 2) (m 15 3)) L e (i + 1)) q) d ∧ w373_10 0 25 = d from by rw [e373_10]; exact AR_fc hA (by omega) h25 (by rw [hE]; unfold cmpv; (repeat' split) <;> omega) evC_1).2 (show AR w373_10 (qT (evC (selv (m 15 0) (m 15 1) (m 15 2) (m 15 3)) L e (i + 1)) q) d ∧ w373_10 0 25 = d from by rw [e373_10]; exact AR_fc hA (by omega) h25 (by rw [hE]; unfold cmpv; (repeat' split) <;> omega) evC_1).1 (qlt_up (qlt_T hb) (by omega)) ((N.2.2.2.2 (by omega)).2)) ⟨rfl, rfl, by rw [show i + 3 = i + 1 + 2 by omega]; rfl, trivial⟩
                            · skip
                              refine jr_iconst F dX8_holds_331 ?_
                              refine jr_goto (tgt := 373) F dX8_holds_332 (by decide) ?_
                              refine jr_vVx F dX8_holds_373 cv_X8_169 (c_X8_factor (by omega) (by omega)) (Nat.le_of_ble_eq_true rfl) rfl rfl rfl rfl (Nat.le_of_ble_eq_true rfl) (Nat.le_of_ble_eq_true rfl) rfl (Nat.le_of_ble_eq_true rfl) (fun w373_11 e373_11 => ?_)
                              refine jr_goto (tgt := 23) F dX8_holds_376 (by decide) ?_
                              exact jr_sub (ih23 _ (i + 3) 7 d (qT (evC (selv (m 15 0) (m 15 1) (m 15 2) (m 15 3)) L e (i + 1)) q) (by omega) (by omega) (by omega) (by omega) ((N.2.2.2.2 (by omega)).1) (fun y y1 => by omega) (by rw [e373_11]; exact wq_fc hq _) (show AR w373_11 (qT (evC (selv (m 15 0) (m 15 1) (m 15 2) (m 15 3)) L e (i + 1)) q) d ∧ w373_11 0 25 = d from by rw [e373_11]; exact AR_fc hA (by omega) h25 (by rw [hE]; unfold cmpv; (repeat' split) <;> omega) evC_1).2 (show AR w373_11 (qT (evC (selv (m 15 0) (m 15 1) (m 15 2) (m 15 3)) L e (i + 1)) q) d ∧ w373_11 0 25 = d from by rw [e373_11]; exact AR_fc hA (by omega) h25 (by rw [hE]; unfold cmpv; (repeat' split) <;> omega) evC_1).1 (qlt_up (qlt_T hb) (by omega)) ((N.2.2.2.2 (by omega)).2)) ⟨rfl, rfl, by rw [show i + 3 = i + 1 + 2 by omega]; rfl, trivial⟩
                        · skip
                          refine jr_bipush F dX8_holds_280 (by decide) ?_
                          refine jr_iload F dX8_holds_282 rfl ?_
                          refine jr_imul F dX8_holds_284 ?_
                          refine jr_aload_n F dX8_holds_285 rfl ?_
                          refine jr_getR (t := 12) F dX8_holds_286 fg_X8_44 (Nat.le_of_ble_eq_true rfl) rfl rfl ?_
                          refine jr_bipush F dX8_holds_289 (by decide) ?_
                          refine jr_iload_n F dX8_holds_291 rfl ?_
                          refine jr_imul F dX8_holds_292 ?_
                          refine jr_iload_n F dX8_holds_293 rfl ?_
                          refine jr_iadd F dX8_holds_294 ?_
                          refine jr_bald F dX8_holds_295 (Nat.le_of_ble_eq_true rfl) rfl (by omega) (fun q295 => ?_) (by omega) (by omega)
                          refine jr_ti (b := (L (i + 3))) (by rw [u12, show 60 * t + (i + 1 + 2) = 60 * t + (i + 3) by omega]; exact hL _ (by omega) (by omega)) ?_
                          refine jr_iadd F dX8_holds_296 ?_
                          refine jr_bipush F dX8_holds_297 (by decide) ?_
                          refine jr_isub F dX8_holds_299 ?_
                          refine jr_istore F dX8_holds_300 (Nat.le_of_ble_eq_true rfl) rfl ?_
                          refine jr_iinc F dX8_holds_302 rfl (Nat.le_of_ble_eq_true rfl) rfl ?_
                          have hn : 10 * (L (i + 2) - 48) + L (i + 3) - 48 = (numv (L (i + 2)) (if i + 3 < e then L (i + 3) else -1)) := by rw [show (if i + 3 < e then L (i + 3) else (-1 : Int)) = L (i + 3) from if_pos (by omega)]; unfold numv; rw [if_pos (by omega)]
                          have hE := evC_n (o := (selv (m 15 0) (m 15 1) (m 15 2) (m 15 3))) hn
                          refine jr_aload_n F dX8_holds_305 rfl ?_
                          refine jr_getR (t := 15) F dX8_holds_306 fg_X8_53 (Nat.le_of_ble_eq_true rfl) rfl rfl ?_
                          refine jr_iload_n F dX8_holds_309 rfl ?_
                          refine jr_sI F dX8_holds_310 cs_X8_173 (c_X8_placeOf (by omega)) rfl (Nat.le_of_ble_eq_true rfl) (Nat.le_of_ble_eq_true rfl) rfl (Nat.le_of_ble_eq_true rfl) ?_
                          refine jr_iald F dX8_holds_313 (Nat.le_of_ble_eq_true rfl) rfl (by omega) (fun q313 => ?_) (by omega) (by omega)
                          refine jr_ti (b := ((selv (m 15 0) (m 15 1) (m 15 2) (m 15 3)) (L i))) (by rw [u15]; exact plc_s (m 15) (L i)) ?_
                          have z313 : u 15 (plc (L i)) = (selv (m 15 0) (m 15 1) (m 15 2) (m 15 3)) (L i) := by rw [u15]; exact plc_s (m 15) (L i)
                          rw [z313] at q313
                          refine jr_istore F dX8_holds_314 (Nat.le_of_ble_eq_true rfl) rfl ?_
                          refine jr_aload_n F dX8_holds_316 rfl ?_
                          refine jr_iload F dX8_holds_317 rfl ?_
                          refine jr_bipush F dX8_holds_319 (by decide) ?_
                          refine jr_icmp_ne (tgt := 339) F dX8_holds_321 (by decide) (fun c321 => ?_) (fun c321 => ?_) (by omega) (by omega)
                          · skip
                            refine jr_iload F dX8_holds_339 rfl ?_
                            refine jr_bipush F dX8_holds_341 (by decide) ?_
                            refine jr_icmp_ne (tgt := 361) F dX8_holds_343 (by decide) (fun c343 => ?_) (fun c343 => ?_) (by omega) (by omega)
                            · skip
                              refine jr_iload F dX8_holds_361 rfl ?_
                              refine jr_iload F dX8_holds_363 rfl ?_
                              refine jr_icmp_le (tgt := 372) F dX8_holds_365 (by decide) (fun c365 => ?_) (fun c365 => ?_) (by omega) (by omega)
                              · skip
                                refine jr_iconst F dX8_holds_372 ?_
                                refine jr_vVx F dX8_holds_373 cv_X8_169 (c_X8_factor (by omega) (by omega)) (Nat.le_of_ble_eq_true rfl) rfl rfl rfl rfl (Nat.le_of_ble_eq_true rfl) (Nat.le_of_ble_eq_true rfl) rfl (Nat.le_of_ble_eq_true rfl) (fun w373_12 e373_12 => ?_)
                                refine jr_goto (tgt := 23) F dX8_holds_376 (by decide) ?_
                                exact jr_sub (ih23 _ (i + 4) 8 d (qT (evC (selv (m 15 0) (m 15 1) (m 15 2) (m 15 3)) L e (i + 1)) q) (by omega) (by omega) (by omega) (by omega) ((N.2.2.2.1 (by omega)).1) (fun y y1 => by omega) (by rw [e373_12]; exact wq_fc hq _) (show AR w373_12 (qT (evC (selv (m 15 0) (m 15 1) (m 15 2) (m 15 3)) L e (i + 1)) q) d ∧ w373_12 0 25 = d from by rw [e373_12]; exact AR_fc hA (by omega) h25 (by rw [hE]; unfold cmpv; (repeat' split) <;> omega) evC_1).2 (show AR w373_12 (qT (evC (selv (m 15 0) (m 15 1) (m 15 2) (m 15 3)) L e (i + 1)) q) d ∧ w373_12 0 25 = d from by rw [e373_12]; exact AR_fc hA (by omega) h25 (by rw [hE]; unfold cmpv; (repeat' split) <;> omega) evC_1).1 (qlt_up (qlt_T hb) (by omega)) ((N.2.2.2.1 (by omega)).2)) ⟨rfl, rfl, by rw [show i + 4 = i + 1 + 2 + 1 by omega]; rfl, trivial⟩
                              · skip
                                refine jr_iconst F dX8_holds_368 ?_
                                refine jr_goto (tgt := 373) F dX8_holds_369 (by decide) ?_
                                refine jr_vVx F dX8_holds_373 cv_X8_169 (c_X8_factor (by omega) (by omega)) (Nat.le_of_ble_eq_true rfl) rfl rfl rfl rfl (Nat.le_of_ble_eq_true rfl) (Nat.le_of_ble_eq_true rfl) rfl (Nat.le_of_ble_eq_true rfl) (fun w373_13 e373_13 => ?_)
                                refine jr_goto (tgt := 23) F dX8_holds_376 (by decide) ?_
                                exact jr_sub (ih23 _ (i + 4) 8 d (qT (evC (selv (m 15 0) (m 15 1) (m 15 2) (m 15 3)) L e (i + 1)) q) (by omega) (by omega) (by omega) (by omega) ((N.2.2.2.1 (by omega)).1) (fun y y1 => by omega) (by rw [e373_13]; exact wq_fc hq _) (show AR w373_13 (qT (evC (selv (m 15 0) (m 15 1) (m 15 2) (m 15 3)) L e (i + 1)) q) d ∧ w373_13 0 25 = d from by rw [e373_13]; exact AR_fc hA (by omega) h25 (by rw [hE]; unfold cmpv; (repeat' split) <;> omega) evC_1).2 (show AR w373_13 (qT (evC (selv (m 15 0) (m 15 1) (m 15 2) (m 15 3)) L e (i + 1)) q) d ∧ w373_13 0 25 = d from by rw [e373_13]; exact AR_fc hA (by omega) h25 (by rw [hE]; unfold cmpv; (repeat' split) <;> omega) evC_1).1 (qlt_up (qlt_T hb) (by omega)) ((N.2.2.2.1 (by omega)).2)) ⟨rfl, rfl, by rw [show i + 4 = i + 1 + 2 + 1 by omega]; rfl, trivial⟩
                            · skip
                              refine jr_iload F dX8_holds_346 rfl ?_
                              refine jr_iload F dX8_holds_348 rfl ?_
                              refine jr_icmp_ne (tgt := 357) F dX8_holds_350 (by decide) (fun c350 => ?_) (fun c350 => ?_) (by omega) (by omega)
                              · skip
                                refine jr_iconst F dX8_holds_357 ?_
                                refine jr_goto (tgt := 373) F dX8_holds_358 (by decide) ?_
                                refine jr_vVx F dX8_holds_373 cv_X8_169 (c_X8_factor (by omega) (by omega)) (Nat.le_of_ble_eq_true rfl) rfl rfl rfl rfl (Nat.le_of_ble_eq_true rfl) (Nat.le_of_ble_eq_true rfl) rfl (Nat.le_of_ble_eq_true rfl) (fun w373_14 e373_14 => ?_)
                                refine jr_goto (tgt := 23) F dX8_holds_376 (by decide) ?_
                                exact jr_sub (ih23 _ (i + 4) 8 d (qT (evC (selv (m 15 0) (m 15 1) (m 15 2) (m 15 3)) L e (i + 1)) q) (by omega) (by omega) (by omega) (by omega) ((N.2.2.2.1 (by omega)).1) (fun y y1 => by omega) (by rw [e373_14]; exact wq_fc hq _) (show AR w373_14 (qT (evC (selv (m 15 0) (m 15 1) (m 15 2) (m 15 3)) L e (i + 1)) q) d ∧ w373_14 0 25 = d from by rw [e373_14]; exact AR_fc hA (by omega) h25 (by rw [hE]; unfold cmpv; (repeat' split) <;> omega) evC_1).2 (show AR w373_14 (qT (evC (selv (m 15 0) (m 15 1) (m 15 2) (m 15 3)) L e (i + 1)) q) d ∧ w373_14 0 25 = d from by rw [e373_14]; exact AR_fc hA (by omega) h25 (by rw [hE]; unfold cmpv; (repeat' split) <;> omega) evC_1).1 (qlt_up (qlt_T hb) (by omega)) ((N.2.2.2.1 (by omega)).2)) ⟨rfl, rfl, by rw [show i + 4 = i + 1 + 2 + 1 by omega]; rfl, trivial⟩
                              · skip
                                refine jr_iconst F dX8_holds_353 ?_
                                refine jr_goto (tgt := 373) F dX8_holds_354 (by decide) ?_
                                refine jr_vVx F dX8_holds_373 cv_X8_169 (c_X8_factor (by omega) (by omega)) (Nat.le_of_ble_eq_true rfl) rfl rfl rfl rfl (Nat.le_of_ble_eq_true rfl) (Nat.le_of_ble_eq_true rfl) rfl (Nat.le_of_ble_eq_true rfl) (fun w373_15 e373_15 => ?_)
                                refine jr_goto (tgt := 23) F dX8_holds_376 (by decide) ?_
                                exact jr_sub (ih23 _ (i + 4) 8 d (qT (evC (selv (m 15 0) (m 15 1) (m 15 2) (m 15 3)) L e (i + 1)) q) (by omega) (by omega) (by omega) (by omega) ((N.2.2.2.1 (by omega)).1) (fun y y1 => by omega) (by rw [e373_15]; exact wq_fc hq _) (show AR w373_15 (qT (evC (selv (m 15 0) (m 15 1) (m 15 2) (m 15 3)) L e (i + 1)) q) d ∧ w373_15 0 25 = d from by rw [e373_15]; exact AR_fc hA (by omega) h25 (by rw [hE]; unfold cmpv; (repeat' split) <;> omega) evC_1).2 (show AR w373_15 (qT (evC (selv (m 15 0) (m 15 1) (m 15 2) (m 15 3)) L e (i + 1)) q) d ∧ w373_15 0 25 = d from by rw [e373_15]; exact AR_fc hA (by omega) h25 (by rw [hE]; unfold cmpv; (repeat' split) <;> omega) evC_1).1 (qlt_up (qlt_T hb) (by omega)) ((N.2.2.2.1 (by omega)).2)) ⟨rfl, rfl, by rw [show i + 4 = i + 1 + 2 + 1 by omega]; rfl, trivial⟩
                          · skip
                            refine jr_iload F dX8_holds_324 rfl ?_
                            refine jr_iload F dX8_holds_326 rfl ?_
                            refine jr_icmp_ge (tgt := 335) F dX8_holds_328 (by decide) (fun c328 => ?_) (fun c328 => ?_) (by omega) (by omega)
                            · skip
                              refine jr_iconst F dX8_holds_335 ?_
                              refine jr_goto (tgt := 373) F dX8_holds_336 (by decide) ?_
                              refine jr_vVx F dX8_holds_373 cv_X8_169 (c_X8_factor (by omega) (by omega)) (Nat.le_of_ble_eq_true rfl) rfl rfl rfl rfl (Nat.le_of_ble_eq_true rfl) (Nat.le_of_ble_eq_true rfl) rfl (Nat.le_of_ble_eq_true rfl) (fun w373_16 e373_16 => ?_)
                              refine jr_goto (tgt := 23) F dX8_holds_376 (by decide) ?_
                              exact jr_sub (ih23 _ (i + 4) 8 d (qT (evC (selv (m 15 0) (m 15 1) (m 15 2) (m 15 3)) L e (i + 1)) q) (by omega) (by omega) (by omega) (by omega) ((N.2.2.2.1 (by omega)).1) (fun y y1 => by omega) (by rw [e373_16]; exact wq_fc hq _) (show AR w373_16 (qT (evC (selv (m 15 0) (m 15 1) (m 15 2) (m 15 3)) L e (i + 1)) q) d ∧ w373_16 0 25 = d from by rw [e373_16]; exact AR_fc hA (by omega) h25 (by rw [hE]; unfold cmpv; (repeat' split) <;> omega) evC_1).2 (show AR w373_16 (qT (evC (selv (m 15 0) (m 15 1) (m 15 2) (m 15 3)) L e (i + 1)) q) d ∧ w373_16 0 25 = d from by rw [e373_16]; exact AR_fc hA (by omega) h25 (by rw [hE]; unfold cmpv; (repeat' split) <;> omega) evC_1).1 (qlt_up (qlt_T hb) (by omega)) ((N.2.2.2.1 (by omega)).2)) ⟨rfl, rfl, by rw [show i + 4 = i + 1 + 2 + 1 by omega]; rfl, trivial⟩
                            · skip
                              refine jr_iconst F dX8_holds_331 ?_
                              refine jr_goto (tgt := 373) F dX8_holds_332 (by decide) ?_
                              refine jr_vVx F dX8_holds_373 cv_X8_169 (c_X8_factor (by omega) (by omega)) (Nat.le_of_ble_eq_true rfl) rfl rfl rfl rfl (Nat.le_of_ble_eq_true rfl) (Nat.le_of_ble_eq_true rfl) rfl (Nat.le_of_ble_eq_true rfl) (fun w373_17 e373_17 => ?_)
                              refine jr_goto (tgt := 23) F dX8_holds_376 (by decide) ?_
                              exact jr_sub (ih23 _ (i + 4) 8 d (qT (evC (selv (m 15 0) (m 15 1) (m 15 2) (m 15 3)) L e (i + 1)) q) (by omega) (by omega) (by omega) (by omega) ((N.2.2.2.1 (by omega)).1) (fun y y1 => by omega) (by rw [e373_17]; exact wq_fc hq _) (show AR w373_17 (qT (evC (selv (m 15 0) (m 15 1) (m 15 2) (m 15 3)) L e (i + 1)) q) d ∧ w373_17 0 25 = d from by rw [e373_17]; exact AR_fc hA (by omega) h25 (by rw [hE]; unfold cmpv; (repeat' split) <;> omega) evC_1).2 (show AR w373_17 (qT (evC (selv (m 15 0) (m 15 1) (m 15 2) (m 15 3)) L e (i + 1)) q) d ∧ w373_17 0 25 = d from by rw [e373_17]; exact AR_fc hA (by omega) h25 (by rw [hE]; unfold cmpv; (repeat' split) <;> omega) evC_1).1 (qlt_up (qlt_T hb) (by omega)) ((N.2.2.2.1 (by omega)).2)) ⟨rfl, rfl, by rw [show i + 4 = i + 1 + 2 + 1 by omega]; rfl, trivial⟩
                  · skip
                    have hev : evL (selv (m 15 0) (m 15 1) (m 15 2) (m 15 3)) L e i q = qB q := by unfold evL; rw [if_neg (by omega), if_neg (by omega), if_neg (by omega), if_pos (by omega)]
                    refine jr_aload_n F dX8_holds_158 rfl ?_
                    refine jr_getR (t := 16) F dX8_holds_159 fg_X8_56 (Nat.le_of_ble_eq_true rfl) rfl rfl ?_
                    refine jr_aload_n F dX8_holds_162 rfl ?_
                    refine jr_getIx F d dX8_holds_163 fg_X8_163 (Nat.le_of_ble_eq_true rfl) rfl rfl h25 (fun q163 => ?_)
                    refine jr_aload_n F dX8_holds_166 rfl ?_
                    refine jr_getR (t := 16) F dX8_holds_167 fg_X8_56 (Nat.le_of_ble_eq_true rfl) rfl rfl ?_
                    refine jr_aload_n F dX8_holds_170 rfl ?_
                    refine jr_getIx F d dX8_holds_171 fg_X8_163 (Nat.le_of_ble_eq_true rfl) rfl rfl h25 (fun q171 => ?_)
                    refine jr_zald F dX8_holds_174 (Nat.le_of_ble_eq_true rfl) rfl (by omega) (fun q174 => ?_) (by omega) (by omega)
                    refine jr_if_ne (tgt := 190) F dX8_holds_175 (by decide) (fun c175 => ?_) (fun c175 => ?_) (by omega)
                    · skip
                      refine jr_iconst F dX8_holds_190 ?_
                      refine jr_goto (tgt := 195) F dX8_holds_191 (by decide) ?_
                      refine jr_zastx F dX8_holds_195 (Nat.le_of_ble_eq_true rfl) rfl (by omega) (fun w195 e195 => ?_) (by omega) (by omega) (by omega)
                      refine jr_aload_n F dX8_holds_196 rfl ?_
                      refine jr_getR (t := 17) F dX8_holds_197 fg_X8_60 (Nat.le_of_ble_eq_true rfl) rfl rfl ?_
                      refine jr_aload_n F dX8_holds_200 rfl ?_
                      refine jr_getIx F d dX8_holds_201 fg_X8_163 (Nat.le_of_ble_eq_true rfl) rfl rfl (by subst e195; exact (show u 0 25 = d from h25)) (fun q201 => ?_)
                      refine jr_iconst F dX8_holds_204 ?_
                      refine jr_zastx F dX8_holds_205 (Nat.le_of_ble_eq_true rfl) rfl (by omega) (fun w205 e205 => ?_) (by omega) (by omega) (by omega)
                      refine jr_goto (tgt := 376) F dX8_holds_206 (by decide) ?_
                      refine jr_goto (tgt := 23) F dX8_holds_376 (by decide) ?_
                      exact jr_sub (ih23 _ (i + 1) 4 d (qB q) (by omega) (by omega) (by omega) (by omega) (VS_n st.2 (by omega) (by first | (rw [dep_1 (by omega)]; done) | (rw [dep_2 (by omega)]; omega) | (rw [dep_0 (by omega) (by omega)]; omega))) (fun y => by omega) (by rw [e205, e195]; exact wq_16 (wq_16 hq (by omega) _ _) (by omega) _ _) (show AR w205 (qB q) d ∧ w205 0 25 = d from by rw [e205, e195]; exact ⟨AR_B hA hd.1 (by first | (rw [if_pos (by omega)]; done) | (rw [if_neg (by omega)])), h25⟩).2 (show AR w205 (qB q) d ∧ w205 0 25 = d from by rw [e205, e195]; exact ⟨AR_B hA hd.1 (by first | (rw [if_pos (by omega)]; done) | (rw [if_neg (by omega)])), h25⟩).1 (qlt_s i0.1 hb hev) (by rw [hv]; exact evS_s (by omega) hev)) ⟨rfl, rfl, rfl, trivial⟩
                    · skip
                      refine jr_aload_n F dX8_holds_178 rfl ?_
                      refine jr_getR (t := 17) F dX8_holds_179 fg_X8_60 (Nat.le_of_ble_eq_true rfl) rfl rfl ?_
                      refine jr_aload_n F dX8_holds_182 rfl ?_
                      refine jr_getIx F d dX8_holds_183 fg_X8_163 (Nat.le_of_ble_eq_true rfl) rfl rfl h25 (fun q183 => ?_)
                      refine jr_zald F dX8_holds_186 (Nat.le_of_ble_eq_true rfl) rfl (by omega) (fun q186 => ?_) (by omega) (by omega)
                      refine jr_if_eq (tgt := 194) F dX8_holds_187 (by decide) (fun c187 => ?_) (fun c187 => ?_) (by omega)
                      · skip
                        refine jr_iconst F dX8_holds_194 ?_
                        refine jr_zastx F dX8_holds_195 (Nat.le_of_ble_eq_true rfl) rfl (by omega) (fun w195_1 e195_1 => ?_) (by omega) (by omega) (by omega)
                        refine jr_aload_n F dX8_holds_196 rfl ?_
                        refine jr_getR (t := 17) F dX8_holds_197 fg_X8_60 (Nat.le_of_ble_eq_true rfl) rfl rfl ?_
                        refine jr_aload_n F dX8_holds_200 rfl ?_
                        refine jr_getIx F d dX8_holds_201 fg_X8_163 (Nat.le_of_ble_eq_true rfl) rfl rfl (by subst e195_1; exact (show u 0 25 = d from h25)) (fun q201 => ?_)
                        refine jr_iconst F dX8_holds_204 ?_
                        refine jr_zastx F dX8_holds_205 (Nat.le_of_ble_eq_true rfl) rfl (by omega) (fun w205_1 e205_1 => ?_) (by omega) (by omega) (by omega)
                        refine jr_goto (tgt := 376) F dX8_holds_206 (by decide) ?_
                        refine jr_goto (tgt := 23) F dX8_holds_376 (by decide) ?_
                        exact jr_sub (ih23 _ (i + 1) 4 d (qB q) (by omega) (by omega) (by omega) (by omega) (VS_n st.2 (by omega) (by first | (rw [dep_1 (by omega)]; done) | (rw [dep_2 (by omega)]; omega) | (rw [dep_0 (by omega) (by omega)]; omega))) (fun y => by omega) (by rw [e205_1, e195_1]; exact wq_16 (wq_16 hq (by omega) _ _) (by omega) _ _) (show AR w205_1 (qB q) d ∧ w205_1 0 25 = d from by rw [e205_1, e195_1]; exact ⟨AR_B hA hd.1 (by first | (rw [if_pos (by omega)]; done) | (rw [if_neg (by omega)])), h25⟩).2 (show AR w205_1 (qB q) d ∧ w205_1 0 25 = d from by rw [e205_1, e195_1]; exact ⟨AR_B hA hd.1 (by first | (rw [if_pos (by omega)]; done) | (rw [if_neg (by omega)])), h25⟩).1 (qlt_s i0.1 hb hev) (by rw [hv]; exact evS_s (by omega) hev)) ⟨rfl, rfl, rfl, trivial⟩
                      · skip
                        refine jr_iconst F dX8_holds_190 ?_
                        refine jr_goto (tgt := 195) F dX8_holds_191 (by decide) ?_
                        refine jr_zastx F dX8_holds_195 (Nat.le_of_ble_eq_true rfl) rfl (by omega) (fun w195_2 e195_2 => ?_) (by omega) (by omega) (by omega)
                        refine jr_aload_n F dX8_holds_196 rfl ?_
                        refine jr_getR (t := 17) F dX8_holds_197 fg_X8_60 (Nat.le_of_ble_eq_true rfl) rfl rfl ?_
                        refine jr_aload_n F dX8_holds_200 rfl ?_
                        refine jr_getIx F d dX8_holds_201 fg_X8_163 (Nat.le_of_ble_eq_true rfl) rfl rfl (by subst e195_2; exact (show u 0 25 = d from h25)) (fun q201 => ?_)
                        refine jr_iconst F dX8_holds_204 ?_
                        refine jr_zastx F dX8_holds_205 (Nat.le_of_ble_eq_true rfl) rfl (by omega) (fun w205_2 e205_2 => ?_) (by omega) (by omega) (by omega)
                        refine jr_goto (tgt := 376) F dX8_holds_206 (by decide) ?_
                        refine jr_goto (tgt := 23) F dX8_holds_376 (by decide) ?_
                        exact jr_sub (ih23 _ (i + 1) 4 d (qB q) (by omega) (by omega) (by omega) (by omega) (VS_n st.2 (by omega) (by first | (rw [dep_1 (by omega)]; done) | (rw [dep_2 (by omega)]; omega) | (rw [dep_0 (by omega) (by omega)]; omega))) (fun y => by omega) (by rw [e205_2, e195_2]; exact wq_16 (wq_16 hq (by omega) _ _) (by omega) _ _) (show AR w205_2 (qB q) d ∧ w205_2 0 25 = d from by rw [e205_2, e195_2]; exact ⟨AR_B hA hd.1 (by first | (rw [if_pos (by omega)]; done) | (rw [if_neg (by omega)])), h25⟩).2 (show AR w205_2 (qB q) d ∧ w205_2 0 25 = d from by rw [e205_2, e195_2]; exact ⟨AR_B hA hd.1 (by first | (rw [if_pos (by omega)]; done) | (rw [if_neg (by omega)])), h25⟩).1 (qlt_s i0.1 hb hev) (by rw [hv]; exact evS_s (by omega) hev)) ⟨rfl, rfl, rfl, trivial⟩
                · skip
                  have hev : evL (selv (m 15 0) (m 15 1) (m 15 2) (m 15 3)) L e i q = qE q := by unfold evL; rw [if_neg (by omega), if_neg (by omega), if_pos (by omega)]
                  have qv := AR_V hA hd.1
                  have qr := qV_R q
                  refine jr_aload_n F dX8_holds_102 rfl ?_
                  refine jr_getR (t := 16) F dX8_holds_103 fg_X8_56 (Nat.le_of_ble_eq_true rfl) rfl rfl ?_
                  refine jr_aload_n F dX8_holds_106 rfl ?_
                  refine jr_getIx F d dX8_holds_107 fg_X8_163 (Nat.le_of_ble_eq_true rfl) rfl rfl h25 (fun q107 => ?_)
                  refine jr_zald F dX8_holds_110 (Nat.le_of_ble_eq_true rfl) rfl (by omega) (fun q110 => ?_) (by omega) (by omega)
                  refine jr_if_ne (tgt := 126) F dX8_holds_111 (by decide) (fun c111 => ?_) (fun c111 => ?_) (by omega)
                  · skip
                    refine jr_iconst F dX8_holds_126 ?_
                    refine jr_goto (tgt := 131) F dX8_holds_127 (by decide) ?_
                    refine jr_istore F dX8_holds_131 (Nat.le_of_ble_eq_true rfl) rfl ?_
                    refine jr_aload_n F dX8_holds_133 rfl ?_
                    refine jr_dup F dX8_holds_134 rfl ?_
                    refine jr_getIx F d dX8_holds_135 fg_X8_163 (Nat.le_of_ble_eq_true rfl) rfl rfl h25 (fun q135 => ?_)
                    refine jr_iconst F dX8_holds_138 ?_
                    refine jr_isub F dX8_holds_139 ?_
                    refine jr_putIx F dX8_holds_140 fp_X8_163 (Nat.le_of_ble_eq_true rfl) rfl rfl (by omega) (fun w140 e140 => ?_)
                    refine jr_aload_n F dX8_holds_143 rfl ?_
                    refine jr_iload F dX8_holds_144 rfl ?_
                    refine jr_vVx F dX8_holds_146 cv_X8_169 (c_X8_factor (by subst e140; show 0 ≤ d - 1 ∧ d - 1 ≤ 60; omega) (by omega)) (Nat.le_of_ble_eq_true rfl) rfl rfl rfl rfl (Nat.le_of_ble_eq_true rfl) (Nat.le_of_ble_eq_true rfl) rfl (Nat.le_of_ble_eq_true rfl) (fun w146 e146 => ?_)
                    refine jr_goto (tgt := 376) F dX8_holds_149 (by decide) ?_
                    refine jr_goto (tgt := 23) F dX8_holds_376 (by decide) ?_
                    exact jr_sub (ih23 _ (i + 1) 8 (d - 1) (qE q) (by omega) (by omega) (by omega) (by omega) (VS_n st.2 (by omega) (by first | (rw [dep_1 (by omega)]; done) | (rw [dep_2 (by omega)]; omega) | (rw [dep_0 (by omega) (by omega)]; omega))) (fun y => by omega) (by rw [e146, e140]; exact wq_fc (wq_25 hq _) _) (show AR w146 (qE q) (d - 1) ∧ w146 0 25 = d - 1 from by rw [e146, e140]; exact AR_fc (n := qV q) (AR_H (AR_c (up_cell (by decide)) (up_cell (by decide)) (up_cell (by decide)) hA)) (by omega) rfl (by omega) (qV_R q)).2 (show AR w146 (qE q) (d - 1) ∧ w146 0 25 = d - 1 from by rw [e146, e140]; exact AR_fc (n := qV q) (AR_H (AR_c (up_cell (by decide)) (up_cell (by decide)) (up_cell (by decide)) hA)) (by omega) rfl (by omega) (qV_R q)).1 (qlt_s i0.1 hb hev) (by rw [hv]; exact evS_s (by omega) hev)) ⟨rfl, rfl, rfl, trivial⟩
                  · skip
                    refine jr_aload_n F dX8_holds_114 rfl ?_
                    refine jr_getR (t := 17) F dX8_holds_115 fg_X8_60 (Nat.le_of_ble_eq_true rfl) rfl rfl ?_
                    refine jr_aload_n F dX8_holds_118 rfl ?_
                    refine jr_getIx F d dX8_holds_119 fg_X8_163 (Nat.le_of_ble_eq_true rfl) rfl rfl h25 (fun q119 => ?_)
                    refine jr_zald F dX8_holds_122 (Nat.le_of_ble_eq_true rfl) rfl (by omega) (fun q122 => ?_) (by omega) (by omega)
                    refine jr_if_eq (tgt := 130) F dX8_holds_123 (by decide) (fun c123 => ?_) (fun c123 => ?_) (by omega)
                    · skip
                      refine jr_iconst F dX8_holds_130 ?_
                      refine jr_istore F dX8_holds_131 (Nat.le_of_ble_eq_true rfl) rfl ?_
                      refine jr_aload_n F dX8_holds_133 rfl ?_
                      refine jr_dup F dX8_holds_134 rfl ?_
                      refine jr_getIx F d dX8_holds_135 fg_X8_163 (Nat.le_of_ble_eq_true rfl) rfl rfl h25 (fun q135 => ?_)
                      refine jr_iconst F dX8_holds_138 ?_
                      refine jr_isub F dX8_holds_139 ?_
                      refine jr_putIx F dX8_holds_140 fp_X8_163 (Nat.le_of_ble_eq_true rfl) rfl rfl (by omega) (fun w140_1 e140_1 => ?_)
                      refine jr_aload_n F dX8_holds_143 rfl ?_
                      refine jr_iload F dX8_holds_144 rfl ?_
                      refine jr_vVx F dX8_holds_146 cv_X8_169 (c_X8_factor (by subst e140_1; show 0 ≤ d - 1 ∧ d - 1 ≤ 60; omega) (by omega)) (Nat.le_of_ble_eq_true rfl) rfl rfl rfl rfl (Nat.le_of_ble_eq_true rfl) (Nat.le_of_ble_eq_true rfl) rfl (Nat.le_of_ble_eq_true rfl) (fun w146_1 e146_1 => ?_)
                      refine jr_goto (tgt := 376) F dX8_holds_149 (by decide) ?_
                      refine jr_goto (tgt := 23) F dX8_holds_376 (by decide) ?_
                      exact jr_sub (ih23 _ (i + 1) 8 (d - 1) (qE q) (by omega) (by omega) (by omega) (by omega) (VS_n st.2 (by omega) (by first | (rw [dep_1 (by omega)]; done) | (rw [dep_2 (by omega)]; omega) | (rw [dep_0 (by omega) (by omega)]; omega))) (fun y => by omega) (by rw [e146_1, e140_1]; exact wq_fc (wq_25 hq _) _) (show AR w146_1 (qE q) (d - 1) ∧ w146_1 0 25 = d - 1 from by rw [e146_1, e140_1]; exact AR_fc (n := qV q) (AR_H (AR_c (up_cell (by decide)) (up_cell (by decide)) (up_cell (by decide)) hA)) (by omega) rfl (by omega) (qV_R q)).2 (show AR w146_1 (qE q) (d - 1) ∧ w146_1 0 25 = d - 1 from by rw [e146_1, e140_1]; exact AR_fc (n := qV q) (AR_H (AR_c (up_cell (by decide)) (up_cell (by decide)) (up_cell (by decide)) hA)) (by omega) rfl (by omega) (qV_R q)).1 (qlt_s i0.1 hb hev) (by rw [hv]; exact evS_s (by omega) hev)) ⟨rfl, rfl, rfl, trivial⟩
                    · skip
                      refine jr_iconst F dX8_holds_126 ?_
                      refine jr_goto (tgt := 131) F dX8_holds_127 (by decide) ?_
                      refine jr_istore F dX8_holds_131 (Nat.le_of_ble_eq_true rfl) rfl ?_
                      refine jr_aload_n F dX8_holds_133 rfl ?_
                      refine jr_dup F dX8_holds_134 rfl ?_
                      refine jr_getIx F d dX8_holds_135 fg_X8_163 (Nat.le_of_ble_eq_true rfl) rfl rfl h25 (fun q135 => ?_)
                      refine jr_iconst F dX8_holds_138 ?_
                      refine jr_isub F dX8_holds_139 ?_
                      refine jr_putIx F dX8_holds_140 fp_X8_163 (Nat.le_of_ble_eq_true rfl) rfl rfl (by omega) (fun w140_2 e140_2 => ?_)
                      refine jr_aload_n F dX8_holds_143 rfl ?_
                      refine jr_iload F dX8_holds_144 rfl ?_
                      refine jr_vVx F dX8_holds_146 cv_X8_169 (c_X8_factor (by subst e140_2; show 0 ≤ d - 1 ∧ d - 1 ≤ 60; omega) (by omega)) (Nat.le_of_ble_eq_true rfl) rfl rfl rfl rfl (Nat.le_of_ble_eq_true rfl) (Nat.le_of_ble_eq_true rfl) rfl (Nat.le_of_ble_eq_true rfl) (fun w146_2 e146_2 => ?_)
                      refine jr_goto (tgt := 376) F dX8_holds_149 (by decide) ?_
                      refine jr_goto (tgt := 23) F dX8_holds_376 (by decide) ?_
                      exact jr_sub (ih23 _ (i + 1) 8 (d - 1) (qE q) (by omega) (by omega) (by omega) (by omega) (VS_n st.2 (by omega) (by first | (rw [dep_1 (by omega)]; done) | (rw [dep_2 (by omega)]; omega) | (rw [dep_0 (by omega) (by omega)]; omega))) (fun y => by omega) (by rw [e146_2, e140_2]; exact wq_fc (wq_25 hq _) _) (show AR w146_2 (qE q) (d - 1) ∧ w146_2 0 25 = d - 1 from by rw [e146_2, e140_2]; exact AR_fc (n := qV q) (AR_H (AR_c (up_cell (by decide)) (up_cell (by decide)) (up_cell (by decide)) hA)) (by omega) rfl (by omega) (qV_R q)).2 (show AR w146_2 (qE q) (d - 1) ∧ w146_2 0 25 = d - 1 from by rw [e146_2, e140_2]; exact AR_fc (n := qV q) (AR_H (AR_c (up_cell (by decide)) (up_cell (by decide)) (up_cell (by decide)) hA)) (by omega) rfl (by omega) (qV_R q)).1 (qlt_s i0.1 hb hev) (by rw [hv]; exact evS_s (by omega) hev)) ⟨rfl, rfl, rfl, trivial⟩
              · skip
                have hev : evL (selv (m 15 0) (m 15 1) (m 15 2) (m 15 3)) L e i q = qP q := by unfold evL; rw [if_neg (by omega), if_pos (by omega)]
                refine jr_aload_n F dX8_holds_89 rfl ?_
                refine jr_vVx F dX8_holds_90 cv_X8_166 (c_X8_openGroup (by omega)) (Nat.le_of_ble_eq_true rfl) rfl rfl rfl rfl (Nat.le_of_ble_eq_true rfl) (Nat.le_of_ble_eq_true rfl) rfl (Nat.le_of_ble_eq_true rfl) (fun w90 e90 => ?_)
                refine jr_goto (tgt := 376) F dX8_holds_93 (by decide) ?_
                refine jr_goto (tgt := 23) F dX8_holds_376 (by decide) ?_
                exact jr_sub (ih23 _ (i + 1) 4 (d + 1) (qP q) (by omega) (by omega) (by omega) (by omega) (VS_n st.2 (by omega) (by first | (rw [dep_1 (by omega)]; done) | (rw [dep_2 (by omega)]; omega) | (rw [dep_0 (by omega) (by omega)]; omega))) (fun y => by omega) (by rw [e90]; exact wq_og hq) (show AR w90 (qP q) (d + 1) ∧ w90 0 25 = d + 1 from by rw [e90]; exact AR_og hA hd.1 h25).2 (show AR w90 (qP q) (d + 1) ∧ w90 0 25 = d + 1 from by rw [e90]; exact AR_og hA hd.1 h25).1 (qlt_s i0.1 hb hev) (by rw [hv]; exact evS_s (by omega) hev)) ⟨rfl, rfl, rfl, trivial⟩
            · skip
              have hev : evL (selv (m 15 0) (m 15 1) (m 15 2) (m 15 3)) L e i q = qN q := by unfold evL; rw [if_pos (by omega)]
              refine jr_aload_n F dX8_holds_54 rfl ?_
              refine jr_getR (t := 18) F dX8_holds_55 fg_X8_63 (Nat.le_of_ble_eq_true rfl) rfl rfl ?_
              refine jr_aload_n F dX8_holds_58 rfl ?_
              refine jr_getIx F d dX8_holds_59 fg_X8_163 (Nat.le_of_ble_eq_true rfl) rfl rfl h25 (fun q59 => ?_)
              refine jr_aload_n F dX8_holds_62 rfl ?_
              refine jr_getR (t := 18) F dX8_holds_63 fg_X8_63 (Nat.le_of_ble_eq_true rfl) rfl rfl ?_
              refine jr_aload_n F dX8_holds_66 rfl ?_
              refine jr_getIx F d dX8_holds_67 fg_X8_163 (Nat.le_of_ble_eq_true rfl) rfl rfl h25 (fun q67 => ?_)
              refine jr_zald F dX8_holds_70 (Nat.le_of_ble_eq_true rfl) rfl (by omega) (fun q70 => ?_) (by omega) (by omega)
              refine jr_if_ne (tgt := 78) F dX8_holds_71 (by decide) (fun c71 => ?_) (fun c71 => ?_) (by omega)
              · skip
                refine jr_iconst F dX8_holds_78 ?_
                refine jr_zastx F dX8_holds_79 (Nat.le_of_ble_eq_true rfl) rfl (by omega) (fun w79 e79 => ?_) (by omega) (by omega) (by omega)
                refine jr_goto (tgt := 376) F dX8_holds_80 (by decide) ?_
                refine jr_goto (tgt := 23) F dX8_holds_376 (by decide) ?_
                exact jr_sub (ih23 _ (i + 1) 4 d (qN q) (by omega) (by omega) (by omega) (by omega) (VS_n st.2 (by omega) (by first | (rw [dep_1 (by omega)]; done) | (rw [dep_2 (by omega)]; omega) | (rw [dep_0 (by omega) (by omega)]; omega))) (fun y => by omega) (by rw [e79]; exact wq_16 hq (by omega) _ _) (show AR w79 (qN q) d ∧ w79 0 25 = d from by rw [e79]; exact ⟨AR_N hA (by first | (rw [if_pos (by omega)]; done) | (rw [if_neg (by omega)])), h25⟩).2 (show AR w79 (qN q) d ∧ w79 0 25 = d from by rw [e79]; exact ⟨AR_N hA (by first | (rw [if_pos (by omega)]; done) | (rw [if_neg (by omega)])), h25⟩).1 (qlt_s i0.1 hb hev) (by rw [hv]; exact evS_s (by omega) hev)) ⟨rfl, rfl, rfl, trivial⟩
              · skip
                refine jr_iconst F dX8_holds_74 ?_
                refine jr_goto (tgt := 79) F dX8_holds_75 (by decide) ?_
                refine jr_zastx F dX8_holds_79 (Nat.le_of_ble_eq_true rfl) rfl (by omega) (fun w79_1 e79_1 => ?_) (by omega) (by omega) (by omega)
                refine jr_goto (tgt := 376) F dX8_holds_80 (by decide) ?_
                refine jr_goto (tgt := 23) F dX8_holds_376 (by decide) ?_
                exact jr_sub (ih23 _ (i + 1) 4 d (qN q) (by omega) (by omega) (by omega) (by omega) (VS_n st.2 (by omega) (by first | (rw [dep_1 (by omega)]; done) | (rw [dep_2 (by omega)]; omega) | (rw [dep_0 (by omega) (by omega)]; omega))) (fun y => by omega) (by rw [e79_1]; exact wq_16 hq (by omega) _ _) (show AR w79_1 (qN q) d ∧ w79_1 0 25 = d from by rw [e79_1]; exact ⟨AR_N hA (by first | (rw [if_pos (by omega)]; done) | (rw [if_neg (by omega)])), h25⟩).2 (show AR w79_1 (qN q) d ∧ w79_1 0 25 = d from by rw [e79_1]; exact ⟨AR_N hA (by first | (rw [if_pos (by omega)]; done) | (rw [if_neg (by omega)])), h25⟩).1 (qlt_s i0.1 hb hev) (by rw [hv]; exact evS_s (by omega) hev)) ⟨rfl, rfl, rfl, trivial⟩
    exact jr_sub (L23 _ _ 4 4 0 (0, 1, 0) (Nat.lt_succ_self _) (by omega) (by omega) (by omega) c7v (fun y => by omega) (by rw [e18]; exact wq_og (by rw [e14]; exact wq_25 (wq_r m) _)) (by rw [e18]; exact (AR_og0 (by rw [e14]; rfl)).2) (by rw [e18]; exact (AR_og0 (by rw [e14]; rfl)).1) ⟨by simp, by simp, by simp⟩ rfl) ⟨rfl, rfl, rfl, trivial⟩
  · skip
    refine jr_iconst F dX8_holds_10 ?_
    exact jr_zret F dX8_holds_11 (pB_of (bi_t (by rw [show e = 3 by omega]; exact evR_3 _ _)).symm (wq_r m)) (by omega)

