noncomputable def tfa (w : Wd) (t f : Int) : Int := rd w 6 56 (t * 7 + f)
noncomputable def wfa (w : Wd) (t f : Int) : Int := rd w 9 42 (t * 7 + f)
noncomputable def tyr (w : Wd) (t j : Int) : Int := rd w 7 24 (t * 3 + j)
theorem tfa_R {B : Bs} {w : Wd} (hO : okW (GX B) w) (r f : Int) : inR (tfa w r f) := rd_R (k := 6) (n := 56) hO rfl _
theorem wfa_R {B : Bs} {w : Wd} (hO : okW (GX B) w) (r f : Int) : inR (wfa w r f) := rd_R (k := 9) (n := 42) hO rfl _
theorem tyr_R {B : Bs} {w : Wd} (hO : okW (GX B) w) (r f : Int) : inR (tyr w r f) := rd_R (k := 7) (n := 24) hO rfl _
theorem tfa_in {w : Wd} {r f : Int} (h0 : 0 ≤ r) (h1 : r < 8) (f0 : 0 ≤ f) (f1 : f < 7) : tfa w r f = w 6 (r * 7 + f) := rd_in (by omega) (by omega)
theorem wfa_in {w : Wd} {r f : Int} (h0 : 0 ≤ r) (h1 : r < 6) (f0 : 0 ≤ f) (f1 : f < 7) : wfa w r f = w 9 (r * 7 + f) := rd_in (by omega) (by omega)
theorem tyr_in {w : Wd} {r f : Int} (h0 : 0 ≤ r) (h1 : r < 8) (f0 : 0 ≤ f) (f1 : f < 3) : tyr w r f = w 7 (r * 3 + f) := rd_in (by omega) (by omega)
def smT (w : Wd) (t : Int) : Prop := 0 ≤ t ∧ t < 8 ∧ (∀ f : Int, 0 ≤ f → f < 7 → -1 ≤ tfa w t f ∧ tfa w t f ≤ 99) ∧ ∀ j : Int, 0 ≤ j → j < 3 → -2000 ≤ tyr w t j ∧ tyr w t j ≤ 2000
def smW (w : Wd) (t : Int) : Prop := 0 ≤ t ∧ t < 6 ∧ ∀ f : Int, 0 ≤ f → f < 7 → -1 ≤ wfa w t f ∧ wfa w t f ≤ 99
def knw (w : Wd) (r e : Int) : Prop := 0 ≤ r ∧ r < w 1 3 ∧ fa w r 4 ≤ e
noncomputable def begw (w : Wd) (t j : Int) : Int := tyr w t j - tfa w t 2 + 1
noncomputable def latw (w : Wd) (t : Int) : Int := td w (tfa w t 3) - td w (tfa w t 1) - (tfa w t 2 - tfa w t 4)
def holdw (w : Wd) (t : Int) : Prop := (tfa w t 0 = 0 ∧ max (latw w t) (-(latw w t)) ≤ tfa w t 5) ∨ (tfa w t 0 = 1 ∧ (td w (tfa w t 1) = begw w t 0 ∨ td w (tfa w t 1) = begw w t 1 ∨ td w (tfa w t 1) = begw w t 2)) ∨ (tfa w t 0 = 2 ∧ begw w t 0 ≤ td w (tfa w t 1)) ∨ ((tfa w t 0 < 0 ∨ 2 < tfa w t 0) ∧ 0 ≤ latw w t)
def addTw (w : Wd) (s a x b y l e : Int) : Wd := up (up (up (up (up (up (up (up w 6 (w 5 3 * 7 + 0) s) 6 (w 5 3 * 7 + 1) a) 6 (w 5 3 * 7 + 2) x) 6 (w 5 3 * 7 + 3) b) 6 (w 5 3 * 7 + 4) y) 6 (w 5 3 * 7 + 5) l) 6 (w 5 3 * 7 + 6) e) 5 3 (w 5 3 + 1)
def addWw (w : Wd) (s a x b y l e : Int) : Wd := up (up (up (up (up (up (up (up w 9 (w 8 3 * 7 + 0) s) 9 (w 8 3 * 7 + 1) a) 9 (w 8 3 * 7 + 2) x) 9 (w 8 3 * 7 + 3) b) 9 (w 8 3 * 7 + 4) y) 9 (w 8 3 * 7 + 5) l) 9 (w 8 3 * 7 + 6) e) 8 3 (w 8 3 + 1)
def skyw (w : Wd) (p q r : Int) : Wd := up (up (up (up w 7 (w 5 3 * 3) p) 7 (w 5 3 * 3 + 1) q) 7 (w 5 3 * 3 + 2) r) 5 4 (w 5 4 + 1)

set_option maxRecDepth 100000 in
set_option maxHeartbeats 4000000 in
theorem c_J_abs {B : Bs} {w : Wd} {a : Int} (ha : -2147483647 ≤ a ∧ a ≤ 2147483647) : Sp (GX B) 0 yJ_abs cJ_abs 1 (Option.some FieldType.int) [iv (a)] w (pI w (max a (-a))) := by
  refine Sp.ofF (by decide +kernel) (Nat.le_of_ble_eq_true rfl) (fun X F => ?_)
  show Jw (GX B) X _ 0 [some (iv (a))] [] w
  refine jr_iload_n F dJ_abs_0 rfl ?_
  refine jr_if_ge (tgt := 9) F dJ_abs_1 (by decide) (fun c1 => ?_) (fun c1 => ?_) (by omega)
  · skip
    refine jr_iload_n F dJ_abs_9 rfl ?_
    exact jr_iret F dJ_abs_10 (pI_of (by first | rfl | omega) rfl)
  · skip
    refine jr_iload_n F dJ_abs_4 rfl ?_
    refine jr_ineg F dJ_abs_5 ?_
    refine jr_goto (tgt := 10) F dJ_abs_6 (by decide) ?_
    exact jr_iret F dJ_abs_10 (pI_of (by first | rfl | omega) rfl)

set_option maxRecDepth 100000 in
set_option maxHeartbeats 4000000 in
theorem c_X6_size_5 {B : Bs} {w : Wd}   : Sp (GX B) 0 yX6_size cX6_size 1 (Option.some FieldType.int) [.ref (ga (GX B) (5))] w (pI w (w 5 3)) := by
  refine Sp.of (by decide) (Nat.le_of_ble_eq_true rfl) (fun X F => ?_)
  show Jw (GX B) X _ 0 [some (.ref (ga (GX B) (5)))] [] w
  refine jr_aload_n F dX6_size_0 rfl ?_
  refine jr_getIx F (w 5 3) dX6_size_1 fg_X6_26 (Nat.le_of_ble_eq_true rfl) rfl rfl rfl (fun q1 => ?_)
  exact jr_iret F dX6_size_4 (pI_of (by first | rfl | omega) rfl)

set_option maxRecDepth 100000 in
set_option maxHeartbeats 4000000 in
theorem c_X6_has_5 {B : Bs} {w : Wd} {t : Int} (ht : inR t) : Sp (GX B) 0 yX6_has cX6_has 2 (Option.some FieldType.boolean) [.ref (ga (GX B) (5)), iv (t)] w (pI w (bi (0 ≤ t ∧ t < w 5 3))) := by
  refine Sp.of (by decide) (Nat.le_of_ble_eq_true rfl) (fun X F => ?_)
  show Jw (GX B) X _ 0 [some (.ref (ga (GX B) (5))), some (iv (t))] [] w
  refine jr_iload_n F dX6_has_0 rfl ?_
  refine jr_if_lt (tgt := 16) F dX6_has_1 (by decide) (fun c1 => ?_) (fun c1 => ?_) (by omega)
  · skip
    refine jr_iconst F dX6_has_16 ?_
    exact jr_zret F dX6_has_17 (pI_of (bi_f (by omega)).symm rfl) (by omega)
  · skip
    refine jr_iload_n F dX6_has_4 rfl ?_
    refine jr_aload_n F dX6_has_5 rfl ?_
    refine jr_getIx F (w 5 3) dX6_has_6 fg_X6_26 (Nat.le_of_ble_eq_true rfl) rfl rfl rfl (fun q6 => ?_)
    refine jr_icmp_ge (tgt := 16) F dX6_has_9 (by decide) (fun c9 => ?_) (fun c9 => ?_) (by omega) (by omega)
    · skip
      refine jr_iconst F dX6_has_16 ?_
      exact jr_zret F dX6_has_17 (pI_of (bi_f (by omega)).symm rfl) (by omega)
    · skip
      refine jr_iconst F dX6_has_12 ?_
      refine jr_goto (tgt := 17) F dX6_has_13 (by decide) ?_
      exact jr_zret F dX6_has_17 (pI_of (bi_t (by omega)).symm rfl) (by omega)

set_option maxRecDepth 100000 in
set_option maxHeartbeats 4000000 in
theorem c_X6_isFull_5 {B : Bs} {w : Wd}   : Sp (GX B) 0 yX6_isFull cX6_isFull 1 (Option.some FieldType.boolean) [.ref (ga (GX B) (5))] w (pI w (bi (w 5 2 ≤ w 5 3))) := by
  refine Sp.of (by decide) (Nat.le_of_ble_eq_true rfl) (fun X F => ?_)
  show Jw (GX B) X _ 0 [some (.ref (ga (GX B) (5)))] [] w
  refine jr_aload_n F dX6_isFull_0 rfl ?_
  refine jr_getIx F (w 5 3) dX6_isFull_1 fg_X6_26 (Nat.le_of_ble_eq_true rfl) rfl rfl rfl (fun q1 => ?_)
  refine jr_aload_n F dX6_isFull_4 rfl ?_
  refine jr_getIx F (w 5 2) dX6_isFull_5 fg_X6_13 (Nat.le_of_ble_eq_true rfl) rfl rfl rfl (fun q5 => ?_)
  refine jr_icmp_lt (tgt := 15) F dX6_isFull_8 (by decide) (fun c8 => ?_) (fun c8 => ?_) (by omega) (by omega)
  · skip
    refine jr_iconst F dX6_isFull_15 ?_
    exact jr_zret F dX6_isFull_16 (pI_of (bi_f (by omega)).symm rfl) (by omega)
  · skip
    refine jr_iconst F dX6_isFull_11 ?_
    refine jr_goto (tgt := 16) F dX6_isFull_12 (by decide) ?_
    exact jr_zret F dX6_isFull_16 (pI_of (bi_t (by omega)).symm rfl) (by omega)

set_option maxRecDepth 100000 in
set_option maxHeartbeats 4000000 in
theorem c_X6_fact_5 {B : Bs} {w : Wd} {t f : Int} (h : inR (t * 7 + f)) : Sp (GX B) 1 yX6_fact cX6_fact 3 (Option.some FieldType.int) [.ref (ga (GX B) (5)), iv (t), iv (f)] w (pI w (tfa w t f)) := by
  refine Sp.of (by decide) (Nat.le_of_ble_eq_true rfl) (fun X F => ?_)
  show Jw (GX B) X _ 0 [some (.ref (ga (GX B) (5))), some (iv (t)), some (iv (f))] [] w
  refine jr_aload_n F dX6_fact_0 rfl ?_
  refine jr_getR (t := 6) F dX6_fact_1 fg_X6_19 (Nat.le_of_ble_eq_true rfl) rfl rfl ?_
  refine jr_iload_n F dX6_fact_4 rfl ?_
  refine jr_bipush F dX6_fact_5 (by decide) ?_
  refine jr_imul F dX6_fact_7 ?_
  refine jr_iload_n F dX6_fact_8 rfl ?_
  refine jr_iadd F dX6_fact_9 ?_
  refine jr_nI F dX6_fact_10 cn_X6_32 (c_X7_at (Nat.le_of_ble_eq_true rfl) rfl (by omega) (by omega)) rfl (Nat.le_of_ble_eq_true rfl) (Nat.le_of_ble_eq_true rfl) rfl (Nat.le_of_ble_eq_true rfl) ?_
  exact jr_iret F dX6_fact_13 (pI_of (by first | rfl | omega) rfl)

set_option maxRecDepth 100000 in
set_option maxHeartbeats 4000000 in
theorem c_X6_shift_5 {B : Bs} {w : Wd} {t : Int} (h : inR (t * 7 + 2)) (h2 : inR (t * 7 + 4)) : Sp (GX B) 1 yX6_shift cX6_shift 2 (Option.some FieldType.int) [.ref (ga (GX B) (5)), iv (t)] w (pI w (tfa w t 2 - tfa w t 4)) := by
  refine Sp.of (by decide) (Nat.le_of_ble_eq_true rfl) (fun X F => ?_)
  show Jw (GX B) X _ 0 [some (.ref (ga (GX B) (5))), some (iv (t))] [] w
  refine jr_aload_n F dX6_shift_0 rfl ?_
  refine jr_getR (t := 6) F dX6_shift_1 fg_X6_19 (Nat.le_of_ble_eq_true rfl) rfl rfl ?_
  refine jr_iload_n F dX6_shift_4 rfl ?_
  refine jr_bipush F dX6_shift_5 (by decide) ?_
  refine jr_imul F dX6_shift_7 ?_
  refine jr_iconst F dX6_shift_8 ?_
  refine jr_iadd F dX6_shift_9 ?_
  refine jr_nI F dX6_shift_10 cn_X6_32 (c_X7_at (Nat.le_of_ble_eq_true rfl) rfl (by omega) (by omega)) rfl (Nat.le_of_ble_eq_true rfl) (Nat.le_of_ble_eq_true rfl) rfl (Nat.le_of_ble_eq_true rfl) ?_
  refine jr_aload_n F dX6_shift_13 rfl ?_
  refine jr_getR (t := 6) F dX6_shift_14 fg_X6_19 (Nat.le_of_ble_eq_true rfl) rfl rfl ?_
  refine jr_iload_n F dX6_shift_17 rfl ?_
  refine jr_bipush F dX6_shift_18 (by decide) ?_
  refine jr_imul F dX6_shift_20 ?_
  refine jr_iconst F dX6_shift_21 ?_
  refine jr_iadd F dX6_shift_22 ?_
  refine jr_nI F dX6_shift_23 cn_X6_32 (c_X7_at (Nat.le_of_ble_eq_true rfl) rfl (by omega) (by omega)) rfl (Nat.le_of_ble_eq_true rfl) (Nat.le_of_ble_eq_true rfl) rfl (Nat.le_of_ble_eq_true rfl) ?_
  refine jr_isub F dX6_shift_26 ?_
  exact jr_iret F dX6_shift_27 (pI_of (by first | rfl | omega) rfl)

set_option maxRecDepth 100000 in
set_option maxHeartbeats 4000000 in
theorem c_X6_add_5 {B : Bs} {w : Wd} {s a x b y l e : Int} (h3 : 0 ≤ w 5 3 ∧ w 5 3 < 8) (hs : inR s) (ha : inR a) (hx : inR x) (hb : inR b) (hy : inR y) (hl : inR l) (he : inR e) : Sp (GX B) 1 yX6_add cX6_add 9 (Option.some FieldType.int) [.ref (ga (GX B) (5)), iv (s), iv (a), iv (x), iv (b), iv (y), iv (l), iv (e)] w (pI (addTw w s a x b y l e) (w 5 3)) := by
  refine Sp.of (by decide) (Nat.le_of_ble_eq_true rfl) (fun X F => ?_)
  show Jw (GX B) X _ 0 [some (.ref (ga (GX B) (5))), some (iv (s)), some (iv (a)), some (iv (x)), some (iv (b)), some (iv (y)), some (iv (l)), some (iv (e))] [] w
  refine jr_aload_n F dX6_add_0 rfl ?_
  refine jr_getIx F (w 5 3) dX6_add_1 fg_X6_26 (Nat.le_of_ble_eq_true rfl) rfl rfl rfl (fun q1 => ?_)
  refine jr_bipush F dX6_add_4 (by decide) ?_
  refine jr_imul F dX6_add_6 ?_
  refine jr_istore F dX6_add_7 (Nat.le_of_ble_eq_true rfl) rfl ?_
  refine jr_aload_n F dX6_add_9 rfl ?_
  refine jr_getR (t := 6) F dX6_add_10 fg_X6_19 (Nat.le_of_ble_eq_true rfl) rfl rfl ?_
  refine jr_iload F dX6_add_13 rfl ?_
  refine jr_iconst F dX6_add_15 ?_
  refine jr_iadd F dX6_add_16 ?_
  refine jr_iload_n F dX6_add_17 rfl ?_
  refine jr_nVx F dX6_add_18 cn_X6_36 (c_put_in (Nat.le_of_ble_eq_true rfl) rfl (by omega) (by omega) (by omega) (by omega)) rfl (Nat.le_of_ble_eq_true rfl) (Nat.le_of_ble_eq_true rfl) rfl (Nat.le_of_ble_eq_true rfl) (fun w18 e18 => ?_)
  refine jr_aload_n F dX6_add_21 rfl ?_
  refine jr_getR (t := 6) F dX6_add_22 fg_X6_19 (Nat.le_of_ble_eq_true rfl) rfl rfl ?_
  refine jr_iload F dX6_add_25 rfl ?_
  refine jr_iconst F dX6_add_27 ?_
  refine jr_iadd F dX6_add_28 ?_
  refine jr_iload_n F dX6_add_29 rfl ?_
  refine jr_nVx F dX6_add_30 cn_X6_36 (c_put_in (Nat.le_of_ble_eq_true rfl) rfl (by omega) (by omega) (by omega) (by omega)) rfl (Nat.le_of_ble_eq_true rfl) (Nat.le_of_ble_eq_true rfl) rfl (Nat.le_of_ble_eq_true rfl) (fun w30 e30 => ?_)
  refine jr_aload_n F dX6_add_33 rfl ?_
  refine jr_getR (t := 6) F dX6_add_34 fg_X6_19 (Nat.le_of_ble_eq_true rfl) rfl rfl ?_
  refine jr_iload F dX6_add_37 rfl ?_
  refine jr_iconst F dX6_add_39 ?_
  refine jr_iadd F dX6_add_40 ?_
  refine jr_iload_n F dX6_add_41 rfl ?_
  refine jr_nVx F dX6_add_42 cn_X6_36 (c_put_in (Nat.le_of_ble_eq_true rfl) rfl (by omega) (by omega) (by omega) (by omega)) rfl (Nat.le_of_ble_eq_true rfl) (Nat.le_of_ble_eq_true rfl) rfl (Nat.le_of_ble_eq_true rfl) (fun w42 e42 => ?_)
  refine jr_aload_n F dX6_add_45 rfl ?_
  refine jr_getR (t := 6) F dX6_add_46 fg_X6_19 (Nat.le_of_ble_eq_true rfl) rfl rfl ?_
  refine jr_iload F dX6_add_49 rfl ?_
  refine jr_iconst F dX6_add_51 ?_
  refine jr_iadd F dX6_add_52 ?_
  refine jr_iload F dX6_add_53 rfl ?_
  refine jr_nVx F dX6_add_55 cn_X6_36 (c_put_in (Nat.le_of_ble_eq_true rfl) rfl (by omega) (by omega) (by omega) (by omega)) rfl (Nat.le_of_ble_eq_true rfl) (Nat.le_of_ble_eq_true rfl) rfl (Nat.le_of_ble_eq_true rfl) (fun w55 e55 => ?_)
  refine jr_aload_n F dX6_add_58 rfl ?_
  refine jr_getR (t := 6) F dX6_add_59 fg_X6_19 (Nat.le_of_ble_eq_true rfl) rfl rfl ?_
  refine jr_iload F dX6_add_62 rfl ?_
  refine jr_iconst F dX6_add_64 ?_
  refine jr_iadd F dX6_add_65 ?_
  refine jr_iload F dX6_add_66 rfl ?_
  refine jr_nVx F dX6_add_68 cn_X6_36 (c_put_in (Nat.le_of_ble_eq_true rfl) rfl (by omega) (by omega) (by omega) (by omega)) rfl (Nat.le_of_ble_eq_true rfl) (Nat.le_of_ble_eq_true rfl) rfl (Nat.le_of_ble_eq_true rfl) (fun w68 e68 => ?_)
  refine jr_aload_n F dX6_add_71 rfl ?_
  refine jr_getR (t := 6) F dX6_add_72 fg_X6_19 (Nat.le_of_ble_eq_true rfl) rfl rfl ?_
  refine jr_iload F dX6_add_75 rfl ?_
  refine jr_iconst F dX6_add_77 ?_
  refine jr_iadd F dX6_add_78 ?_
  refine jr_iload F dX6_add_79 rfl ?_
  refine jr_nVx F dX6_add_81 cn_X6_36 (c_put_in (Nat.le_of_ble_eq_true rfl) rfl (by omega) (by omega) (by omega) (by omega)) rfl (Nat.le_of_ble_eq_true rfl) (Nat.le_of_ble_eq_true rfl) rfl (Nat.le_of_ble_eq_true rfl) (fun w81 e81 => ?_)
  refine jr_aload_n F dX6_add_84 rfl ?_
  refine jr_getR (t := 6) F dX6_add_85 fg_X6_19 (Nat.le_of_ble_eq_true rfl) rfl rfl ?_
  refine jr_iload F dX6_add_88 rfl ?_
  refine jr_bipush F dX6_add_90 (by decide) ?_
  refine jr_iadd F dX6_add_92 ?_
  refine jr_iload F dX6_add_93 rfl ?_
  refine jr_nVx F dX6_add_95 cn_X6_36 (c_put_in (Nat.le_of_ble_eq_true rfl) rfl (by omega) (by omega) (by omega) (by omega)) rfl (Nat.le_of_ble_eq_true rfl) (Nat.le_of_ble_eq_true rfl) rfl (Nat.le_of_ble_eq_true rfl) (fun w95 e95 => ?_)
  refine jr_aload_n F dX6_add_98 rfl ?_
  refine jr_dup F dX6_add_99 rfl ?_
  refine jr_getIx F (w 5 3) dX6_add_100 fg_X6_26 (Nat.le_of_ble_eq_true rfl) rfl rfl (by subst e95; subst e81; subst e68; subst e55; subst e42; subst e30; subst e18; rfl) (fun q100 => ?_)
  refine jr_dup_x1 F dX6_add_103 rfl rfl ?_
  refine jr_iconst F dX6_add_104 ?_
  refine jr_iadd F dX6_add_105 ?_
  refine jr_putIx F dX6_add_106 fp_X6_26 (Nat.le_of_ble_eq_true rfl) rfl rfl (by omega) (fun w106 e106 => ?_)
  exact jr_iret F dX6_add_109 (pI_of (by first | rfl | fail) (by subst e106; subst e95; subst e81; subst e68; subst e55; subst e42; subst e30; subst e18; first | rfl | fail))

set_option maxRecDepth 100000 in
set_option maxHeartbeats 4000000 in
theorem c_X6_isKnown_5 {B : Bs} {w : Wd} {t e : Int} (ht : 0 ≤ t ∧ t < 100) (h10 : w 1 3 ≤ 10) (he : inR e) : Sp (GX B) 3 yX6_isKnown cX6_isKnown 5 (Option.some FieldType.boolean) [.ref (ga (GX B) (5)), iv (t), iv (e), .ref (ga (GX B) (1))] w (pI w (bi (tfa w t 6 ≤ e ∧ knw w (tfa w t 1) e ∧ (tfa w t 3 = -1 ∨ knw w (tfa w t 3) e)))) := by
  refine Sp.of (by decide) (Nat.le_of_ble_eq_true rfl) (fun X F => ?_)
  refine jr_ok (fun hO => ?_)
  have q1 := tfa_R hO t 1
  have q3 := tfa_R hO t 3
  have q6 := tfa_R hO t 6
  show Jw (GX B) X _ 0 [some (.ref (ga (GX B) (5))), some (iv (t)), some (iv (e)), some (.ref (ga (GX B) (1)))] [] w
  refine jr_aload_n F dX6_isKnown_0 rfl ?_
  refine jr_iload_n F dX6_isKnown_1 rfl ?_
  refine jr_iconst F dX6_isKnown_2 ?_
  refine jr_vI F dX6_isKnown_3 cv_X6_44 (c_X6_fact_5 (by omega)) (Nat.le_of_ble_eq_true rfl) rfl rfl rfl rfl (Nat.le_of_ble_eq_true rfl) (Nat.le_of_ble_eq_true rfl) rfl (Nat.le_of_ble_eq_true rfl) ?_
  refine jr_istore F dX6_isKnown_6 (Nat.le_of_ble_eq_true rfl) rfl ?_
  refine jr_aload_n F dX6_isKnown_8 rfl ?_
  refine jr_iload_n F dX6_isKnown_9 rfl ?_
  refine jr_bipush F dX6_isKnown_10 (by decide) ?_
  refine jr_vI F dX6_isKnown_12 cv_X6_44 (c_X6_fact_5 (by omega)) (Nat.le_of_ble_eq_true rfl) rfl rfl rfl rfl (Nat.le_of_ble_eq_true rfl) (Nat.le_of_ble_eq_true rfl) rfl (Nat.le_of_ble_eq_true rfl) ?_
  refine jr_iload_n F dX6_isKnown_15 rfl ?_
  refine jr_icmp_gt (tgt := 53) F dX6_isKnown_16 (by decide) (fun c16 => ?_) (fun c16 => ?_) (by omega) (by omega)
  · skip
    refine jr_iconst F dX6_isKnown_53 ?_
    exact jr_zret F dX6_isKnown_54 (pI_of (bi_f (by unfold knw; omega)).symm rfl) (by omega)
  · skip
    refine jr_aload_n F dX6_isKnown_19 rfl ?_
    refine jr_aload_n F dX6_isKnown_20 rfl ?_
    refine jr_iload_n F dX6_isKnown_21 rfl ?_
    refine jr_iconst F dX6_isKnown_22 ?_
    refine jr_vI F dX6_isKnown_23 cv_X6_44 (c_X6_fact_5 (by omega)) (Nat.le_of_ble_eq_true rfl) rfl rfl rfl rfl (Nat.le_of_ble_eq_true rfl) (Nat.le_of_ble_eq_true rfl) rfl (Nat.le_of_ble_eq_true rfl) ?_
    refine jr_iload_n F dX6_isKnown_26 rfl ?_
    refine jr_vI F dX6_isKnown_27 cv_X6_48 (c_X3_isKnown (by omega) (by omega) (by omega)) (Nat.le_of_ble_eq_true rfl) rfl rfl rfl rfl (Nat.le_of_ble_eq_true rfl) (Nat.le_of_ble_eq_true rfl) rfl (Nat.le_of_ble_eq_true rfl) ?_
    refine jr_ifeq_b (tgt := 53) F dX6_isKnown_30 (by decide) (fun c30 => ?_) (fun c30 => ?_)
    · skip
      refine jr_iconst F dX6_isKnown_53 ?_
      exact jr_zret F dX6_isKnown_54 (pI_of (bi_f (by unfold knw; omega)).symm rfl) (by omega)
    · skip
      refine jr_iload F dX6_isKnown_33 rfl ?_
      refine jr_iconst F dX6_isKnown_35 ?_
      refine jr_icmp_eq (tgt := 49) F dX6_isKnown_36 (by decide) (fun c36 => ?_) (fun c36 => ?_) (by omega) (by omega)
      · skip
        refine jr_iconst F dX6_isKnown_49 ?_
        refine jr_goto (tgt := 54) F dX6_isKnown_50 (by decide) ?_
        exact jr_zret F dX6_isKnown_54 (pI_of (bi_t (by unfold knw; omega)).symm rfl) (by omega)
      · skip
        refine jr_aload_n F dX6_isKnown_39 rfl ?_
        refine jr_iload F dX6_isKnown_40 rfl ?_
        refine jr_iload_n F dX6_isKnown_42 rfl ?_
        refine jr_vI F dX6_isKnown_43 cv_X6_48 (c_X3_isKnown (by omega) (by omega) (by omega)) (Nat.le_of_ble_eq_true rfl) rfl rfl rfl rfl (Nat.le_of_ble_eq_true rfl) (Nat.le_of_ble_eq_true rfl) rfl (Nat.le_of_ble_eq_true rfl) ?_
        refine jr_ifeq_b (tgt := 53) F dX6_isKnown_46 (by decide) (fun c46 => ?_) (fun c46 => ?_)
        · skip
          refine jr_iconst F dX6_isKnown_53 ?_
          exact jr_zret F dX6_isKnown_54 (pI_of (bi_f (by unfold knw; omega)).symm rfl) (by omega)
        · skip
          refine jr_iconst F dX6_isKnown_49 ?_
          refine jr_goto (tgt := 54) F dX6_isKnown_50 (by decide) ?_
          exact jr_zret F dX6_isKnown_54 (pI_of (bi_t (by unfold knw; omega)).symm rfl) (by omega)

set_option maxRecDepth 100000 in
set_option maxHeartbeats 4000000 in
theorem c_X6_size_8 {B : Bs} {w : Wd}   : Sp (GX B) 0 yX6_size cX6_size 1 (Option.some FieldType.int) [.ref (ga (GX B) (8))] w (pI w (w 8 3)) := by
  refine Sp.of (by decide) (Nat.le_of_ble_eq_true rfl) (fun X F => ?_)
  show Jw (GX B) X _ 0 [some (.ref (ga (GX B) (8)))] [] w
  refine jr_aload_n F dX6_size_0 rfl ?_
  refine jr_getIx F (w 8 3) dX6_size_1 fg_X6_26 (Nat.le_of_ble_eq_true rfl) rfl rfl rfl (fun q1 => ?_)
  exact jr_iret F dX6_size_4 (pI_of (by first | rfl | omega) rfl)

set_option maxRecDepth 100000 in
set_option maxHeartbeats 4000000 in
theorem c_X6_has_8 {B : Bs} {w : Wd} {t : Int} (ht : inR t) : Sp (GX B) 0 yX6_has cX6_has 2 (Option.some FieldType.boolean) [.ref (ga (GX B) (8)), iv (t)] w (pI w (bi (0 ≤ t ∧ t < w 8 3))) := by
  refine Sp.of (by decide) (Nat.le_of_ble_eq_true rfl) (fun X F => ?_)
  show Jw (GX B) X _ 0 [some (.ref (ga (GX B) (8))), some (iv (t))] [] w
  refine jr_iload_n F dX6_has_0 rfl ?_
  refine jr_if_lt (tgt := 16) F dX6_has_1 (by decide) (fun c1 => ?_) (fun c1 => ?_) (by omega)
  · skip
    refine jr_iconst F dX6_has_16 ?_
    exact jr_zret F dX6_has_17 (pI_of (bi_f (by omega)).symm rfl) (by omega)
  · skip
    refine jr_iload_n F dX6_has_4 rfl ?_
    refine jr_aload_n F dX6_has_5 rfl ?_
    refine jr_getIx F (w 8 3) dX6_has_6 fg_X6_26 (Nat.le_of_ble_eq_true rfl) rfl rfl rfl (fun q6 => ?_)
    refine jr_icmp_ge (tgt := 16) F dX6_has_9 (by decide) (fun c9 => ?_) (fun c9 => ?_) (by omega) (by omega)
    · skip
      refine jr_iconst F dX6_has_16 ?_
      exact jr_zret F dX6_has_17 (pI_of (bi_f (by omega)).symm rfl) (by omega)
    · skip
      refine jr_iconst F dX6_has_12 ?_
      refine jr_goto (tgt := 17) F dX6_has_13 (by decide) ?_
      exact jr_zret F dX6_has_17 (pI_of (bi_t (by omega)).symm rfl) (by omega)

set_option maxRecDepth 100000 in
set_option maxHeartbeats 4000000 in
theorem c_X6_isFull_8 {B : Bs} {w : Wd}   : Sp (GX B) 0 yX6_isFull cX6_isFull 1 (Option.some FieldType.boolean) [.ref (ga (GX B) (8))] w (pI w (bi (w 8 2 ≤ w 8 3))) := by
  refine Sp.of (by decide) (Nat.le_of_ble_eq_true rfl) (fun X F => ?_)
  show Jw (GX B) X _ 0 [some (.ref (ga (GX B) (8)))] [] w
  refine jr_aload_n F dX6_isFull_0 rfl ?_
  refine jr_getIx F (w 8 3) dX6_isFull_1 fg_X6_26 (Nat.le_of_ble_eq_true rfl) rfl rfl rfl (fun q1 => ?_)
  refine jr_aload_n F dX6_isFull_4 rfl ?_
  refine jr_getIx F (w 8 2) dX6_isFull_5 fg_X6_13 (Nat.le_of_ble_eq_true rfl) rfl rfl rfl (fun q5 => ?_)
  refine jr_icmp_lt (tgt := 15) F dX6_isFull_8 (by decide) (fun c8 => ?_) (fun c8 => ?_) (by omega) (by omega)
  · skip
    refine jr_iconst F dX6_isFull_15 ?_
    exact jr_zret F dX6_isFull_16 (pI_of (bi_f (by omega)).symm rfl) (by omega)
  · skip
    refine jr_iconst F dX6_isFull_11 ?_
    refine jr_goto (tgt := 16) F dX6_isFull_12 (by decide) ?_
    exact jr_zret F dX6_isFull_16 (pI_of (bi_t (by omega)).symm rfl) (by omega)

set_option maxRecDepth 100000 in
set_option maxHeartbeats 4000000 in
theorem c_X6_fact_8 {B : Bs} {w : Wd} {t f : Int} (h : inR (t * 7 + f)) : Sp (GX B) 1 yX6_fact cX6_fact 3 (Option.some FieldType.int) [.ref (ga (GX B) (8)), iv (t), iv (f)] w (pI w (wfa w t f)) := by
  refine Sp.of (by decide) (Nat.le_of_ble_eq_true rfl) (fun X F => ?_)
  show Jw (GX B) X _ 0 [some (.ref (ga (GX B) (8))), some (iv (t)), some (iv (f))] [] w
  refine jr_aload_n F dX6_fact_0 rfl ?_
  refine jr_getR (t := 9) F dX6_fact_1 fg_X6_19 (Nat.le_of_ble_eq_true rfl) rfl rfl ?_
  refine jr_iload_n F dX6_fact_4 rfl ?_
  refine jr_bipush F dX6_fact_5 (by decide) ?_
  refine jr_imul F dX6_fact_7 ?_
  refine jr_iload_n F dX6_fact_8 rfl ?_
  refine jr_iadd F dX6_fact_9 ?_
  refine jr_nI F dX6_fact_10 cn_X6_32 (c_X7_at (Nat.le_of_ble_eq_true rfl) rfl (by omega) (by omega)) rfl (Nat.le_of_ble_eq_true rfl) (Nat.le_of_ble_eq_true rfl) rfl (Nat.le_of_ble_eq_true rfl) ?_
  exact jr_iret F dX6_fact_13 (pI_of (by first | rfl | omega) rfl)

set_option maxRecDepth 100000 in
set_option maxHeartbeats 4000000 in
theorem c_X6_shift_8 {B : Bs} {w : Wd} {t : Int} (h : inR (t * 7 + 2)) (h2 : inR (t * 7 + 4)) : Sp (GX B) 1 yX6_shift cX6_shift 2 (Option.some FieldType.int) [.ref (ga (GX B) (8)), iv (t)] w (pI w (wfa w t 2 - wfa w t 4)) := by
  refine Sp.of (by decide) (Nat.le_of_ble_eq_true rfl) (fun X F => ?_)
  show Jw (GX B) X _ 0 [some (.ref (ga (GX B) (8))), some (iv (t))] [] w
  refine jr_aload_n F dX6_shift_0 rfl ?_
  refine jr_getR (t := 9) F dX6_shift_1 fg_X6_19 (Nat.le_of_ble_eq_true rfl) rfl rfl ?_
  refine jr_iload_n F dX6_shift_4 rfl ?_
  refine jr_bipush F dX6_shift_5 (by decide) ?_
  refine jr_imul F dX6_shift_7 ?_
  refine jr_iconst F dX6_shift_8 ?_
  refine jr_iadd F dX6_shift_9 ?_
  refine jr_nI F dX6_shift_10 cn_X6_32 (c_X7_at (Nat.le_of_ble_eq_true rfl) rfl (by omega) (by omega)) rfl (Nat.le_of_ble_eq_true rfl) (Nat.le_of_ble_eq_true rfl) rfl (Nat.le_of_ble_eq_true rfl) ?_
  refine jr_aload_n F dX6_shift_13 rfl ?_
  refine jr_getR (t := 9) F dX6_shift_14 fg_X6_19 (Nat.le_of_ble_eq_true rfl) rfl rfl ?_
  refine jr_iload_n F dX6_shift_17 rfl ?_
  refine jr_bipush F dX6_shift_18 (by decide) ?_
  refine jr_imul F dX6_shift_20 ?_
  refine jr_iconst F dX6_shift_21 ?_
  refine jr_iadd F dX6_shift_22 ?_
  refine jr_nI F dX6_shift_23 cn_X6_32 (c_X7_at (Nat.le_of_ble_eq_true rfl) rfl (by omega) (by omega)) rfl (Nat.le_of_ble_eq_true rfl) (Nat.le_of_ble_eq_true rfl) rfl (Nat.le_of_ble_eq_true rfl) ?_
  refine jr_isub F dX6_shift_26 ?_
  exact jr_iret F dX6_shift_27 (pI_of (by first | rfl | omega) rfl)

set_option maxRecDepth 100000 in
set_option maxHeartbeats 4000000 in
theorem c_X6_add_8 {B : Bs} {w : Wd} {s a x b y l e : Int} (h3 : 0 ≤ w 8 3 ∧ w 8 3 < 6) (hs : inR s) (ha : inR a) (hx : inR x) (hb : inR b) (hy : inR y) (hl : inR l) (he : inR e) : Sp (GX B) 1 yX6_add cX6_add 9 (Option.some FieldType.int) [.ref (ga (GX B) (8)), iv (s), iv (a), iv (x), iv (b), iv (y), iv (l), iv (e)] w (pI (addWw w s a x b y l e) (w 8 3)) := by
  refine Sp.of (by decide) (Nat.le_of_ble_eq_true rfl) (fun X F => ?_)
  show Jw (GX B) X _ 0 [some (.ref (ga (GX B) (8))), some (iv (s)), some (iv (a)), some (iv (x)), some (iv (b)), some (iv (y)), some (iv (l)), some (iv (e))] [] w
  refine jr_aload_n F dX6_add_0 rfl ?_
  refine jr_getIx F (w 8 3) dX6_add_1 fg_X6_26 (Nat.le_of_ble_eq_true rfl) rfl rfl rfl (fun q1 => ?_)
  refine jr_bipush F dX6_add_4 (by decide) ?_
  refine jr_imul F dX6_add_6 ?_
  refine jr_istore F dX6_add_7 (Nat.le_of_ble_eq_true rfl) rfl ?_
  refine jr_aload_n F dX6_add_9 rfl ?_
  refine jr_getR (t := 9) F dX6_add_10 fg_X6_19 (Nat.le_of_ble_eq_true rfl) rfl rfl ?_
  refine jr_iload F dX6_add_13 rfl ?_
  refine jr_iconst F dX6_add_15 ?_
  refine jr_iadd F dX6_add_16 ?_
  refine jr_iload_n F dX6_add_17 rfl ?_
  refine jr_nVx F dX6_add_18 cn_X6_36 (c_put_in (Nat.le_of_ble_eq_true rfl) rfl (by omega) (by omega) (by omega) (by omega)) rfl (Nat.le_of_ble_eq_true rfl) (Nat.le_of_ble_eq_true rfl) rfl (Nat.le_of_ble_eq_true rfl) (fun w18 e18 => ?_)
  refine jr_aload_n F dX6_add_21 rfl ?_
  refine jr_getR (t := 9) F dX6_add_22 fg_X6_19 (Nat.le_of_ble_eq_true rfl) rfl rfl ?_
  refine jr_iload F dX6_add_25 rfl ?_
  refine jr_iconst F dX6_add_27 ?_
  refine jr_iadd F dX6_add_28 ?_
  refine jr_iload_n F dX6_add_29 rfl ?_
  refine jr_nVx F dX6_add_30 cn_X6_36 (c_put_in (Nat.le_of_ble_eq_true rfl) rfl (by omega) (by omega) (by omega) (by omega)) rfl (Nat.le_of_ble_eq_true rfl) (Nat.le_of_ble_eq_true rfl) rfl (Nat.le_of_ble_eq_true rfl) (fun w30 e30 => ?_)
  refine jr_aload_n F dX6_add_33 rfl ?_
  refine jr_getR (t := 9) F dX6_add_34 fg_X6_19 (Nat.le_of_ble_eq_true rfl) rfl rfl ?_
  refine jr_iload F dX6_add_37 rfl ?_
  refine jr_iconst F dX6_add_39 ?_
  refine jr_iadd F dX6_add_40 ?_
  refine jr_iload_n F dX6_add_41 rfl ?_
  refine jr_nVx F dX6_add_42 cn_X6_36 (c_put_in (Nat.le_of_ble_eq_true rfl) rfl (by omega) (by omega) (by omega) (by omega)) rfl (Nat.le_of_ble_eq_true rfl) (Nat.le_of_ble_eq_true rfl) rfl (Nat.le_of_ble_eq_true rfl) (fun w42 e42 => ?_)
  refine jr_aload_n F dX6_add_45 rfl ?_
  refine jr_getR (t := 9) F dX6_add_46 fg_X6_19 (Nat.le_of_ble_eq_true rfl) rfl rfl ?_
  refine jr_iload F dX6_add_49 rfl ?_
  refine jr_iconst F dX6_add_51 ?_
  refine jr_iadd F dX6_add_52 ?_
  refine jr_iload F dX6_add_53 rfl ?_
  refine jr_nVx F dX6_add_55 cn_X6_36 (c_put_in (Nat.le_of_ble_eq_true rfl) rfl (by omega) (by omega) (by omega) (by omega)) rfl (Nat.le_of_ble_eq_true rfl) (Nat.le_of_ble_eq_true rfl) rfl (Nat.le_of_ble_eq_true rfl) (fun w55 e55 => ?_)
  refine jr_aload_n F dX6_add_58 rfl ?_
  refine jr_getR (t := 9) F dX6_add_59 fg_X6_19 (Nat.le_of_ble_eq_true rfl) rfl rfl ?_
  refine jr_iload F dX6_add_62 rfl ?_
  refine jr_iconst F dX6_add_64 ?_
  refine jr_iadd F dX6_add_65 ?_
  refine jr_iload F dX6_add_66 rfl ?_
  refine jr_nVx F dX6_add_68 cn_X6_36 (c_put_in (Nat.le_of_ble_eq_true rfl) rfl (by omega) (by omega) (by omega) (by omega)) rfl (Nat.le_of_ble_eq_true rfl) (Nat.le_of_ble_eq_true rfl) rfl (Nat.le_of_ble_eq_true rfl) (fun w68 e68 => ?_)
  refine jr_aload_n F dX6_add_71 rfl ?_
  refine jr_getR (t := 9) F dX6_add_72 fg_X6_19 (Nat.le_of_ble_eq_true rfl) rfl rfl ?_
  refine jr_iload F dX6_add_75 rfl ?_
  refine jr_iconst F dX6_add_77 ?_
  refine jr_iadd F dX6_add_78 ?_
  refine jr_iload F dX6_add_79 rfl ?_
  refine jr_nVx F dX6_add_81 cn_X6_36 (c_put_in (Nat.le_of_ble_eq_true rfl) rfl (by omega) (by omega) (by omega) (by omega)) rfl (Nat.le_of_ble_eq_true rfl) (Nat.le_of_ble_eq_true rfl) rfl (Nat.le_of_ble_eq_true rfl) (fun w81 e81 => ?_)
  refine jr_aload_n F dX6_add_84 rfl ?_
  refine jr_getR (t := 9) F dX6_add_85 fg_X6_19 (Nat.le_of_ble_eq_true rfl) rfl rfl ?_
  refine jr_iload F dX6_add_88 rfl ?_
  refine jr_bipush F dX6_add_90 (by decide) ?_
  refine jr_iadd F dX6_add_92 ?_
  refine jr_iload F dX6_add_93 rfl ?_
  refine jr_nVx F dX6_add_95 cn_X6_36 (c_put_in (Nat.le_of_ble_eq_true rfl) rfl (by omega) (by omega) (by omega) (by omega)) rfl (Nat.le_of_ble_eq_true rfl) (Nat.le_of_ble_eq_true rfl) rfl (Nat.le_of_ble_eq_true rfl) (fun w95 e95 => ?_)
  refine jr_aload_n F dX6_add_98 rfl ?_
  refine jr_dup F dX6_add_99 rfl ?_
  refine jr_getIx F (w 8 3) dX6_add_100 fg_X6_26 (Nat.le_of_ble_eq_true rfl) rfl rfl (by subst e95; subst e81; subst e68; subst e55; subst e42; subst e30; subst e18; rfl) (fun q100 => ?_)
  refine jr_dup_x1 F dX6_add_103 rfl rfl ?_
  refine jr_iconst F dX6_add_104 ?_
  refine jr_iadd F dX6_add_105 ?_
  refine jr_putIx F dX6_add_106 fp_X6_26 (Nat.le_of_ble_eq_true rfl) rfl rfl (by omega) (fun w106 e106 => ?_)
  exact jr_iret F dX6_add_109 (pI_of (by first | rfl | fail) (by subst e106; subst e95; subst e81; subst e68; subst e55; subst e42; subst e30; subst e18; first | rfl | fail))

set_option maxRecDepth 100000 in
set_option maxHeartbeats 4000000 in
theorem c_X6_isKnown_8 {B : Bs} {w : Wd} {t e : Int} (ht : 0 ≤ t ∧ t < 100) (h10 : w 1 3 ≤ 10) (he : inR e) : Sp (GX B) 3 yX6_isKnown cX6_isKnown 5 (Option.some FieldType.boolean) [.ref (ga (GX B) (8)), iv (t), iv (e), .ref (ga (GX B) (1))] w (pI w (bi (wfa w t 6 ≤ e ∧ knw w (wfa w t 1) e ∧ (wfa w t 3 = -1 ∨ knw w (wfa w t 3) e)))) := by
  refine Sp.of (by decide) (Nat.le_of_ble_eq_true rfl) (fun X F => ?_)
  refine jr_ok (fun hO => ?_)
  have q1 := wfa_R hO t 1
  have q3 := wfa_R hO t 3
  have q6 := wfa_R hO t 6
  show Jw (GX B) X _ 0 [some (.ref (ga (GX B) (8))), some (iv (t)), some (iv (e)), some (.ref (ga (GX B) (1)))] [] w
  refine jr_aload_n F dX6_isKnown_0 rfl ?_
  refine jr_iload_n F dX6_isKnown_1 rfl ?_
  refine jr_iconst F dX6_isKnown_2 ?_
  refine jr_vI F dX6_isKnown_3 cv_X6_44 (c_X6_fact_8 (by omega)) (Nat.le_of_ble_eq_true rfl) rfl rfl rfl rfl (Nat.le_of_ble_eq_true rfl) (Nat.le_of_ble_eq_true rfl) rfl (Nat.le_of_ble_eq_true rfl) ?_
  refine jr_istore F dX6_isKnown_6 (Nat.le_of_ble_eq_true rfl) rfl ?_
  refine jr_aload_n F dX6_isKnown_8 rfl ?_
  refine jr_iload_n F dX6_isKnown_9 rfl ?_
  refine jr_bipush F dX6_isKnown_10 (by decide) ?_
  refine jr_vI F dX6_isKnown_12 cv_X6_44 (c_X6_fact_8 (by omega)) (Nat.le_of_ble_eq_true rfl) rfl rfl rfl rfl (Nat.le_of_ble_eq_true rfl) (Nat.le_of_ble_eq_true rfl) rfl (Nat.le_of_ble_eq_true rfl) ?_
  refine jr_iload_n F dX6_isKnown_15 rfl ?_
  refine jr_icmp_gt (tgt := 53) F dX6_isKnown_16 (by decide) (fun c16 => ?_) (fun c16 => ?_) (by omega) (by omega)
  · skip
    refine jr_iconst F dX6_isKnown_53 ?_
    exact jr_zret F dX6_isKnown_54 (pI_of (bi_f (by unfold knw; omega)).symm rfl) (by omega)
  · skip
    refine jr_aload_n F dX6_isKnown_19 rfl ?_
    refine jr_aload_n F dX6_isKnown_20 rfl ?_
    refine jr_iload_n F dX6_isKnown_21 rfl ?_
    refine jr_iconst F dX6_isKnown_22 ?_
    refine jr_vI F dX6_isKnown_23 cv_X6_44 (c_X6_fact_8 (by omega)) (Nat.le_of_ble_eq_true rfl) rfl rfl rfl rfl (Nat.le_of_ble_eq_true rfl) (Nat.le_of_ble_eq_true rfl) rfl (Nat.le_of_ble_eq_true rfl) ?_
    refine jr_iload_n F dX6_isKnown_26 rfl ?_
    refine jr_vI F dX6_isKnown_27 cv_X6_48 (c_X3_isKnown (by omega) (by omega) (by omega)) (Nat.le_of_ble_eq_true rfl) rfl rfl rfl rfl (Nat.le_of_ble_eq_true rfl) (Nat.le_of_ble_eq_true rfl) rfl (Nat.le_of_ble_eq_true rfl) ?_
    refine jr_ifeq_b (tgt := 53) F dX6_isKnown_30 (by decide) (fun c30 => ?_) (fun c30 => ?_)
    · skip
      refine jr_iconst F dX6_isKnown_53 ?_
      exact jr_zret F dX6_isKnown_54 (pI_of (bi_f (by unfold knw; omega)).symm rfl) (by omega)
    · skip
      refine jr_iload F dX6_isKnown_33 rfl ?_
      refine jr_iconst F dX6_isKnown_35 ?_
      refine jr_icmp_eq (tgt := 49) F dX6_isKnown_36 (by decide) (fun c36 => ?_) (fun c36 => ?_) (by omega) (by omega)
      · skip
        refine jr_iconst F dX6_isKnown_49 ?_
        refine jr_goto (tgt := 54) F dX6_isKnown_50 (by decide) ?_
        exact jr_zret F dX6_isKnown_54 (pI_of (bi_t (by unfold knw; omega)).symm rfl) (by omega)
      · skip
        refine jr_aload_n F dX6_isKnown_39 rfl ?_
        refine jr_iload F dX6_isKnown_40 rfl ?_
        refine jr_iload_n F dX6_isKnown_42 rfl ?_
        refine jr_vI F dX6_isKnown_43 cv_X6_48 (c_X3_isKnown (by omega) (by omega) (by omega)) (Nat.le_of_ble_eq_true rfl) rfl rfl rfl rfl (Nat.le_of_ble_eq_true rfl) (Nat.le_of_ble_eq_true rfl) rfl (Nat.le_of_ble_eq_true rfl) ?_
        refine jr_ifeq_b (tgt := 53) F dX6_isKnown_46 (by decide) (fun c46 => ?_) (fun c46 => ?_)
        · skip
          refine jr_iconst F dX6_isKnown_53 ?_
          exact jr_zret F dX6_isKnown_54 (pI_of (bi_f (by unfold knw; omega)).symm rfl) (by omega)
        · skip
          refine jr_iconst F dX6_isKnown_49 ?_
          refine jr_goto (tgt := 54) F dX6_isKnown_50 (by decide) ?_
          exact jr_zret F dX6_isKnown_54 (pI_of (bi_t (by unfold knw; omega)).symm rfl) (by omega)

set_option maxRecDepth 100000 in
set_option maxHeartbeats 4000000 in
theorem c_X6_areSkiesFull_5 {B : Bs} {w : Wd}   : Sp (GX B) 0 yX6_areSkiesFull cX6_areSkiesFull 1 (Option.some FieldType.boolean) [.ref (ga (GX B) (5))] w (pI w (bi (2 ≤ w 5 4))) := by
  refine Sp.of (by decide) (Nat.le_of_ble_eq_true rfl) (fun X F => ?_)
  show Jw (GX B) X _ 0 [some (.ref (ga (GX B) (5)))] [] w
  refine jr_aload_n F dX6_areSkiesFull_0 rfl ?_
  refine jr_getIx F (w 5 4) dX6_areSkiesFull_1 fg_X6_29 (Nat.le_of_ble_eq_true rfl) rfl rfl rfl (fun q1 => ?_)
  refine jr_iconst F dX6_areSkiesFull_4 ?_
  refine jr_icmp_lt (tgt := 12) F dX6_areSkiesFull_5 (by decide) (fun c5 => ?_) (fun c5 => ?_) (by omega) (by omega)
  · skip
    refine jr_iconst F dX6_areSkiesFull_12 ?_
    exact jr_zret F dX6_areSkiesFull_13 (pI_of (bi_f (by omega)).symm rfl) (by omega)
  · skip
    refine jr_iconst F dX6_areSkiesFull_8 ?_
    refine jr_goto (tgt := 13) F dX6_areSkiesFull_9 (by decide) ?_
    exact jr_zret F dX6_areSkiesFull_13 (pI_of (bi_t (by omega)).symm rfl) (by omega)

set_option maxRecDepth 100000 in
set_option maxHeartbeats 4000000 in
theorem c_X6_year_5 {B : Bs} {w : Wd} {t j : Int} (h : inR (t * 3 + j)) : Sp (GX B) 1 yX6_year cX6_year 3 (Option.some FieldType.int) [.ref (ga (GX B) (5)), iv (t), iv (j)] w (pI w (tyr w t j)) := by
  refine Sp.of (by decide) (Nat.le_of_ble_eq_true rfl) (fun X F => ?_)
  show Jw (GX B) X _ 0 [some (.ref (ga (GX B) (5))), some (iv (t)), some (iv (j))] [] w
  refine jr_aload_n F dX6_year_0 rfl ?_
  refine jr_getR (t := 7) F dX6_year_1 fg_X6_23 (Nat.le_of_ble_eq_true rfl) rfl rfl ?_
  refine jr_iload_n F dX6_year_4 rfl ?_
  refine jr_iconst F dX6_year_5 ?_
  refine jr_imul F dX6_year_6 ?_
  refine jr_iload_n F dX6_year_7 rfl ?_
  refine jr_iadd F dX6_year_8 ?_
  refine jr_nI F dX6_year_9 cn_X6_32 (c_X7_at (Nat.le_of_ble_eq_true rfl) rfl (by omega) (by omega)) rfl (Nat.le_of_ble_eq_true rfl) (Nat.le_of_ble_eq_true rfl) rfl (Nat.le_of_ble_eq_true rfl) ?_
  exact jr_iret F dX6_year_12 (pI_of (by first | rfl | omega) rfl)

set_option maxRecDepth 100000 in
set_option maxHeartbeats 4000000 in
theorem c_X6_beginning_5 {B : Bs} {w : Wd} {t j : Int} (h : inR (t * 3 + j)) (h2 : inR (t * 7 + 2)) : Sp (GX B) 1 yX6_beginning cX6_beginning 3 (Option.some FieldType.int) [.ref (ga (GX B) (5)), iv (t), iv (j)] w (pI w (begw w t j)) := by
  refine Sp.of (by decide) (Nat.le_of_ble_eq_true rfl) (fun X F => ?_)
  show Jw (GX B) X _ 0 [some (.ref (ga (GX B) (5))), some (iv (t)), some (iv (j))] [] w
  refine jr_aload_n F dX6_beginning_0 rfl ?_
  refine jr_getR (t := 7) F dX6_beginning_1 fg_X6_23 (Nat.le_of_ble_eq_true rfl) rfl rfl ?_
  refine jr_iload_n F dX6_beginning_4 rfl ?_
  refine jr_iconst F dX6_beginning_5 ?_
  refine jr_imul F dX6_beginning_6 ?_
  refine jr_iload_n F dX6_beginning_7 rfl ?_
  refine jr_iadd F dX6_beginning_8 ?_
  refine jr_nI F dX6_beginning_9 cn_X6_32 (c_X7_at (Nat.le_of_ble_eq_true rfl) rfl (by omega) (by omega)) rfl (Nat.le_of_ble_eq_true rfl) (Nat.le_of_ble_eq_true rfl) rfl (Nat.le_of_ble_eq_true rfl) ?_
  refine jr_aload_n F dX6_beginning_12 rfl ?_
  refine jr_getR (t := 6) F dX6_beginning_13 fg_X6_19 (Nat.le_of_ble_eq_true rfl) rfl rfl ?_
  refine jr_iload_n F dX6_beginning_16 rfl ?_
  refine jr_bipush F dX6_beginning_17 (by decide) ?_
  refine jr_imul F dX6_beginning_19 ?_
  refine jr_iconst F dX6_beginning_20 ?_
  refine jr_iadd F dX6_beginning_21 ?_
  refine jr_nI F dX6_beginning_22 cn_X6_32 (c_X7_at (Nat.le_of_ble_eq_true rfl) rfl (by omega) (by omega)) rfl (Nat.le_of_ble_eq_true rfl) (Nat.le_of_ble_eq_true rfl) rfl (Nat.le_of_ble_eq_true rfl) ?_
  refine jr_isub F dX6_beginning_25 ?_
  refine jr_iconst F dX6_beginning_26 ?_
  refine jr_iadd F dX6_beginning_27 ?_
  exact jr_iret F dX6_beginning_28 (pI_of (by first | rfl | omega) rfl)

set_option maxRecDepth 100000 in
set_option maxHeartbeats 4000000 in
theorem c_X6_addSky_5 {B : Bs} {w : Wd} {a x p q r e : Int} (h3 : 0 ≤ w 5 3 ∧ w 5 3 < 8) (h4 : 0 ≤ w 5 4 ∧ w 5 4 < 10) (ha : inR a) (hx : inR x) (hp : inR p) (hq : inR q) (hr : inR r) (he : inR e) : Sp (GX B) 2 yX6_addSky cX6_addSky 7 (Option.some FieldType.int) [.ref (ga (GX B) (5)), iv (a), iv (x), iv (p), iv (q), iv (r), iv (e)] w (pI (addTw (skyw w p q r) 1 a x (-1) (-1) (-1) e) (w 5 3)) := by
  refine Sp.of (by decide) (Nat.le_of_ble_eq_true rfl) (fun X F => ?_)
  show Jw (GX B) X _ 0 [some (.ref (ga (GX B) (5))), some (iv (a)), some (iv (x)), some (iv (p)), some (iv (q)), some (iv (r)), some (iv (e))] [] w
  refine jr_aload_n F dX6_addSky_0 rfl ?_
  refine jr_getR (t := 7) F dX6_addSky_1 fg_X6_23 (Nat.le_of_ble_eq_true rfl) rfl rfl ?_
  refine jr_aload_n F dX6_addSky_4 rfl ?_
  refine jr_getIx F (w 5 3) dX6_addSky_5 fg_X6_26 (Nat.le_of_ble_eq_true rfl) rfl rfl rfl (fun q5 => ?_)
  refine jr_iconst F dX6_addSky_8 ?_
  refine jr_imul F dX6_addSky_9 ?_
  refine jr_iload_n F dX6_addSky_10 rfl ?_
  refine jr_nVx F dX6_addSky_11 cn_X6_36 (c_put_in (Nat.le_of_ble_eq_true rfl) rfl (by omega) (by omega) (by omega) (by omega)) rfl (Nat.le_of_ble_eq_true rfl) (Nat.le_of_ble_eq_true rfl) rfl (Nat.le_of_ble_eq_true rfl) (fun w11 e11 => ?_)
  refine jr_aload_n F dX6_addSky_14 rfl ?_
  refine jr_getR (t := 7) F dX6_addSky_15 fg_X6_23 (Nat.le_of_ble_eq_true rfl) rfl rfl ?_
  refine jr_aload_n F dX6_addSky_18 rfl ?_
  refine jr_getIx F (w 5 3) dX6_addSky_19 fg_X6_26 (Nat.le_of_ble_eq_true rfl) rfl rfl (by subst e11; rfl) (fun q19 => ?_)
  refine jr_iconst F dX6_addSky_22 ?_
  refine jr_imul F dX6_addSky_23 ?_
  refine jr_iconst F dX6_addSky_24 ?_
  refine jr_iadd F dX6_addSky_25 ?_
  refine jr_iload F dX6_addSky_26 rfl ?_
  refine jr_nVx F dX6_addSky_28 cn_X6_36 (c_put_in (Nat.le_of_ble_eq_true rfl) rfl (by omega) (by omega) (by omega) (by omega)) rfl (Nat.le_of_ble_eq_true rfl) (Nat.le_of_ble_eq_true rfl) rfl (Nat.le_of_ble_eq_true rfl) (fun w28 e28 => ?_)
  refine jr_aload_n F dX6_addSky_31 rfl ?_
  refine jr_getR (t := 7) F dX6_addSky_32 fg_X6_23 (Nat.le_of_ble_eq_true rfl) rfl rfl ?_
  refine jr_aload_n F dX6_addSky_35 rfl ?_
  refine jr_getIx F (w 5 3) dX6_addSky_36 fg_X6_26 (Nat.le_of_ble_eq_true rfl) rfl rfl (by subst e28; subst e11; rfl) (fun q36 => ?_)
  refine jr_iconst F dX6_addSky_39 ?_
  refine jr_imul F dX6_addSky_40 ?_
  refine jr_iconst F dX6_addSky_41 ?_
  refine jr_iadd F dX6_addSky_42 ?_
  refine jr_iload F dX6_addSky_43 rfl ?_
  refine jr_nVx F dX6_addSky_45 cn_X6_36 (c_put_in (Nat.le_of_ble_eq_true rfl) rfl (by omega) (by omega) (by omega) (by omega)) rfl (Nat.le_of_ble_eq_true rfl) (Nat.le_of_ble_eq_true rfl) rfl (Nat.le_of_ble_eq_true rfl) (fun w45 e45 => ?_)
  refine jr_aload_n F dX6_addSky_48 rfl ?_
  refine jr_dup F dX6_addSky_49 rfl ?_
  refine jr_getIx F (w 5 4) dX6_addSky_50 fg_X6_29 (Nat.le_of_ble_eq_true rfl) rfl rfl (by subst e45; subst e28; subst e11; rfl) (fun q50 => ?_)
  refine jr_iconst F dX6_addSky_53 ?_
  refine jr_iadd F dX6_addSky_54 ?_
  refine jr_putIx F dX6_addSky_55 fp_X6_29 (Nat.le_of_ble_eq_true rfl) rfl rfl (by omega) (fun w55 e55 => ?_)
  refine jr_aload_n F dX6_addSky_58 rfl ?_
  refine jr_iconst F dX6_addSky_59 ?_
  refine jr_iload_n F dX6_addSky_60 rfl ?_
  refine jr_iload_n F dX6_addSky_61 rfl ?_
  refine jr_iconst F dX6_addSky_62 ?_
  refine jr_iconst F dX6_addSky_63 ?_
  refine jr_iconst F dX6_addSky_64 ?_
  refine jr_iload F dX6_addSky_65 rfl ?_
  have z3 : w55 5 3 = w 5 3 := by subst e55; subst e45; subst e28; subst e11; rfl
  refine jr_vIx F dX6_addSky_67 cv_X6_40 (c_X6_add_5 (by omega) (by omega) (by omega) (by omega) (by omega) (by omega) (by omega) (by omega)) (Nat.le_of_ble_eq_true rfl) rfl rfl rfl rfl (Nat.le_of_ble_eq_true rfl) (Nat.le_of_ble_eq_true rfl) rfl (Nat.le_of_ble_eq_true rfl) (fun w67 e67 => ?_)
  exact jr_iret F dX6_addSky_70 (pI_of (by first | rfl | exact z3) (by subst e67; subst e55; subst e45; subst e28; subst e11; first | rfl | exact z3))

set_option maxRecDepth 100000 in
set_option maxHeartbeats 4000000 in
theorem c_X6_addRing_5 {B : Bs} {w : Wd} {a x p e : Int} (h3 : 0 ≤ w 5 3 ∧ w 5 3 < 8) (ha : inR a) (hx : inR x) (hp : inR p) (he : inR e) : Sp (GX B) 2 yX6_addRing cX6_addRing 5 (Option.some FieldType.int) [.ref (ga (GX B) (5)), iv (a), iv (x), iv (p), iv (e)] w (pI (addTw (up w 7 (w 5 3 * 3) p) 2 a x (-1) (-1) (-1) e) (w 5 3)) := by
  refine Sp.of (by decide) (Nat.le_of_ble_eq_true rfl) (fun X F => ?_)
  show Jw (GX B) X _ 0 [some (.ref (ga (GX B) (5))), some (iv (a)), some (iv (x)), some (iv (p)), some (iv (e))] [] w
  refine jr_aload_n F dX6_addRing_0 rfl ?_
  refine jr_getR (t := 7) F dX6_addRing_1 fg_X6_23 (Nat.le_of_ble_eq_true rfl) rfl rfl ?_
  refine jr_aload_n F dX6_addRing_4 rfl ?_
  refine jr_getIx F (w 5 3) dX6_addRing_5 fg_X6_26 (Nat.le_of_ble_eq_true rfl) rfl rfl rfl (fun q5 => ?_)
  refine jr_iconst F dX6_addRing_8 ?_
  refine jr_imul F dX6_addRing_9 ?_
  refine jr_iload_n F dX6_addRing_10 rfl ?_
  refine jr_nVx F dX6_addRing_11 cn_X6_36 (c_put_in (Nat.le_of_ble_eq_true rfl) rfl (by omega) (by omega) (by omega) (by omega)) rfl (Nat.le_of_ble_eq_true rfl) (Nat.le_of_ble_eq_true rfl) rfl (Nat.le_of_ble_eq_true rfl) (fun w11 e11 => ?_)
  refine jr_aload_n F dX6_addRing_14 rfl ?_
  refine jr_iconst F dX6_addRing_15 ?_
  refine jr_iload_n F dX6_addRing_16 rfl ?_
  refine jr_iload_n F dX6_addRing_17 rfl ?_
  refine jr_iconst F dX6_addRing_18 ?_
  refine jr_iconst F dX6_addRing_19 ?_
  refine jr_iconst F dX6_addRing_20 ?_
  refine jr_iload F dX6_addRing_21 rfl ?_
  have z3 : w11 5 3 = w 5 3 := by subst e11; rfl
  refine jr_vIx F dX6_addRing_23 cv_X6_40 (c_X6_add_5 (by omega) (by omega) (by omega) (by omega) (by omega) (by omega) (by omega) (by omega)) (Nat.le_of_ble_eq_true rfl) rfl rfl rfl rfl (Nat.le_of_ble_eq_true rfl) (Nat.le_of_ble_eq_true rfl) rfl (Nat.le_of_ble_eq_true rfl) (fun w23 e23 => ?_)
  exact jr_iret F dX6_addRing_26 (pI_of (by first | rfl | exact z3) (by subst e23; subst e11; first | rfl | exact z3))

set_option maxRecDepth 100000 in
set_option maxHeartbeats 4000000 in
theorem c_X6_drop_5 {B : Bs} {w : Wd}  (h3 : 0 < w 5 3 ∧ w 5 3 ≤ 8) (h4 : 0 ≤ w 5 4 ∧ w 5 4 < 10) : Sp (GX B) 2 yX6_drop cX6_drop 1 (Option.some FieldType.int) [.ref (ga (GX B) (5))] w (pI (up (up w 5 3 (w 5 3 - 1)) 5 4 (w 5 4 - bi (tfa w (w 5 3 - 1) 0 = 1))) (w 5 3 - 1)) := by
  refine Sp.of (by decide) (Nat.le_of_ble_eq_true rfl) (fun X F => ?_)
  refine jr_ok (fun hO => ?_)
  show Jw (GX B) X _ 0 [some (.ref (ga (GX B) (5)))] [] w
  refine jr_aload_n F dX6_drop_0 rfl ?_
  refine jr_dup F dX6_drop_1 rfl ?_
  refine jr_getIx F (w 5 3) dX6_drop_2 fg_X6_26 (Nat.le_of_ble_eq_true rfl) rfl rfl rfl (fun q2 => ?_)
  refine jr_iconst F dX6_drop_5 ?_
  refine jr_isub F dX6_drop_6 ?_
  refine jr_putIx F dX6_drop_7 fp_X6_26 (Nat.le_of_ble_eq_true rfl) rfl rfl (by omega) (fun w7 e7 => ?_)
  refine jr_aload_n F dX6_drop_10 rfl ?_
  refine jr_dup F dX6_drop_11 rfl ?_
  refine jr_getIx F (w 5 4) dX6_drop_12 fg_X6_29 (Nat.le_of_ble_eq_true rfl) rfl rfl (by subst e7; rfl) (fun q12 => ?_)
  refine jr_aload_n F dX6_drop_15 rfl ?_
  refine jr_aload_n F dX6_drop_16 rfl ?_
  refine jr_getIx F (w 5 3 - 1) dX6_drop_17 fg_X6_26 (Nat.le_of_ble_eq_true rfl) rfl rfl (by subst e7; rfl) (fun q17 => ?_)
  refine jr_iconst F dX6_drop_20 ?_
  refine jr_vI F dX6_drop_21 cv_X6_44 (c_X6_fact_5 (by omega)) (Nat.le_of_ble_eq_true rfl) rfl rfl rfl rfl (Nat.le_of_ble_eq_true rfl) (Nat.le_of_ble_eq_true rfl) rfl (Nat.le_of_ble_eq_true rfl) ?_
  refine jr_ti (b := tfa w (w 5 3 - 1) 0) (by subst e7; rfl) ?_
  have q0 := tfa_R hO (w 5 3 - 1) 0
  refine jr_iconst F dX6_drop_24 ?_
  refine jr_icmp_ne (tgt := 32) F dX6_drop_25 (by decide) (fun c25 => ?_) (fun c25 => ?_) (by omega) (by omega)
  · skip
    refine jr_iconst F dX6_drop_32 ?_
    refine jr_isub F dX6_drop_33 ?_
    refine jr_putIx F dX6_drop_34 fp_X6_29 (Nat.le_of_ble_eq_true rfl) rfl rfl (by omega) (fun w34 e34 => ?_)
    refine jr_aload_n F dX6_drop_37 rfl ?_
    refine jr_getIx F (w 5 3 - 1) dX6_drop_38 fg_X6_26 (Nat.le_of_ble_eq_true rfl) rfl rfl (by subst e34; subst e7; rfl) (fun q38 => ?_)
    exact jr_iret F dX6_drop_41 (pI_of (by first | rfl | (rw [bi_t (by omega)]; rfl) | (rw [bi_f (by omega)]; rfl)) (by subst e34; subst e7; first | rfl | (rw [bi_t (by omega)]; rfl) | (rw [bi_f (by omega)]; rfl)))
  · skip
    refine jr_iconst F dX6_drop_28 ?_
    refine jr_goto (tgt := 33) F dX6_drop_29 (by decide) ?_
    refine jr_isub F dX6_drop_33 ?_
    refine jr_putIx F dX6_drop_34 fp_X6_29 (Nat.le_of_ble_eq_true rfl) rfl rfl (by omega) (fun w34_1 e34_1 => ?_)
    refine jr_aload_n F dX6_drop_37 rfl ?_
    refine jr_getIx F (w 5 3 - 1) dX6_drop_38 fg_X6_26 (Nat.le_of_ble_eq_true rfl) rfl rfl (by subst e34_1; subst e7; rfl) (fun q38 => ?_)
    exact jr_iret F dX6_drop_41 (pI_of (by first | rfl | (rw [bi_t (by omega)]; rfl) | (rw [bi_f (by omega)]; rfl)) (by subst e34_1; subst e7; first | rfl | (rw [bi_t (by omega)]; rfl) | (rw [bi_f (by omega)]; rfl)))

set_option maxRecDepth 100000 in
set_option maxHeartbeats 4000000 in
theorem c_X6_holdsAsTold_5 {B : Bs} {w : Wd} {t : Int} (hs : smT w t) (ht : ∀ r : Int, -2000 ≤ td w r ∧ td w r ≤ 2000) : Sp (GX B) 2 yX6_holdsAsTold cX6_holdsAsTold 5 (Option.some FieldType.boolean) [.ref (ga (GX B) (5)), iv (t), .ref (ga (GX B) (1))] w (pI w (bi (holdw w t))) := by
  refine Sp.of (by decide) (Nat.le_of_ble_eq_true rfl) (fun X F => ?_)
  have s0 := hs.1
  have s1 := hs.2.1
  have f0 := hs.2.2.1 0 (by omega) (by omega)
  have f1 := hs.2.2.1 1 (by omega) (by omega)
  have f2 := hs.2.2.1 2 (by omega) (by omega)
  have f3 := hs.2.2.1 3 (by omega) (by omega)
  have f4 := hs.2.2.1 4 (by omega) (by omega)
  have f5 := hs.2.2.1 5 (by omega) (by omega)
  have y0 := hs.2.2.2 0 (by omega) (by omega)
  have y1 := hs.2.2.2 1 (by omega) (by omega)
  have y2 := hs.2.2.2 2 (by omega) (by omega)
  have t1 := ht (tfa w t 1)
  have t3 := ht (tfa w t 3)
  show Jw (GX B) X _ 0 [some (.ref (ga (GX B) (5))), some (iv (t)), some (.ref (ga (GX B) (1)))] [] w
  refine jr_aload_n F dX6_holdsAsTold_0 rfl ?_
  refine jr_aload_n F dX6_holdsAsTold_1 rfl ?_
  refine jr_iload_n F dX6_holdsAsTold_2 rfl ?_
  refine jr_iconst F dX6_holdsAsTold_3 ?_
  refine jr_vI F dX6_holdsAsTold_4 cv_X6_44 (c_X6_fact_5 (by omega)) (Nat.le_of_ble_eq_true rfl) rfl rfl rfl rfl (Nat.le_of_ble_eq_true rfl) (Nat.le_of_ble_eq_true rfl) rfl (Nat.le_of_ble_eq_true rfl) ?_
  refine jr_vI F dX6_holdsAsTold_7 cv_X6_54 (c_X3_toldYear (by omega)) (Nat.le_of_ble_eq_true rfl) rfl rfl rfl rfl (Nat.le_of_ble_eq_true rfl) (Nat.le_of_ble_eq_true rfl) rfl (Nat.le_of_ble_eq_true rfl) ?_
  refine jr_istore_n F dX6_holdsAsTold_10 (Nat.le_of_ble_eq_true rfl) rfl ?_
  refine jr_aload_n F dX6_holdsAsTold_11 rfl ?_
  refine jr_aload_n F dX6_holdsAsTold_12 rfl ?_
  refine jr_iload_n F dX6_holdsAsTold_13 rfl ?_
  refine jr_iconst F dX6_holdsAsTold_14 ?_
  refine jr_vI F dX6_holdsAsTold_15 cv_X6_44 (c_X6_fact_5 (by omega)) (Nat.le_of_ble_eq_true rfl) rfl rfl rfl rfl (Nat.le_of_ble_eq_true rfl) (Nat.le_of_ble_eq_true rfl) rfl (Nat.le_of_ble_eq_true rfl) ?_
  refine jr_vI F dX6_holdsAsTold_18 cv_X6_54 (c_X3_toldYear (by omega)) (Nat.le_of_ble_eq_true rfl) rfl rfl rfl rfl (Nat.le_of_ble_eq_true rfl) (Nat.le_of_ble_eq_true rfl) rfl (Nat.le_of_ble_eq_true rfl) ?_
  refine jr_iload_n F dX6_holdsAsTold_21 rfl ?_
  refine jr_isub F dX6_holdsAsTold_22 ?_
  refine jr_aload_n F dX6_holdsAsTold_23 rfl ?_
  refine jr_iload_n F dX6_holdsAsTold_24 rfl ?_
  refine jr_vI F dX6_holdsAsTold_25 cv_X6_58 (c_X6_shift_5 (by omega) (by omega)) (Nat.le_of_ble_eq_true rfl) rfl rfl rfl rfl (Nat.le_of_ble_eq_true rfl) (Nat.le_of_ble_eq_true rfl) rfl (Nat.le_of_ble_eq_true rfl) ?_
  refine jr_isub F dX6_holdsAsTold_28 ?_
  have lt : -5000 ≤ latw w t ∧ latw w t ≤ 5000 := by unfold latw; omega
  refine jr_ti (b := latw w t) rfl ?_
  refine jr_istore F dX6_holdsAsTold_29 (Nat.le_of_ble_eq_true rfl) rfl ?_
  refine jr_aload_n F dX6_holdsAsTold_31 rfl ?_
  refine jr_iload_n F dX6_holdsAsTold_32 rfl ?_
  refine jr_iconst F dX6_holdsAsTold_33 ?_
  refine jr_vI F dX6_holdsAsTold_34 cv_X6_44 (c_X6_fact_5 (by omega)) (Nat.le_of_ble_eq_true rfl) rfl rfl rfl rfl (Nat.le_of_ble_eq_true rfl) (Nat.le_of_ble_eq_true rfl) rfl (Nat.le_of_ble_eq_true rfl) ?_
  rcases (show (tfa w t 0) = 0 ∨ (tfa w t 0) = 1 ∨ (tfa w t 0) = 2 ∨ ((tfa w t 0) < 0 ∨ 2 < (tfa w t 0)) by omega) with c37 | c37 | c37 | c37
  · refine jr_tsIn (tgt := 64) F (0) dX6_holdsAsTold_37 c37 (by omega) (by omega) rfl (by decide) (by omega) ?_
    refine jr_iload F dX6_holdsAsTold_64 rfl ?_
    refine jr_sI F dX6_holdsAsTold_66 cs_X6_61 (c_J_abs (by omega)) rfl (Nat.le_of_ble_eq_true rfl) (Nat.le_of_ble_eq_true rfl) rfl (Nat.le_of_ble_eq_true rfl) ?_
    refine jr_aload_n F dX6_holdsAsTold_69 rfl ?_
    refine jr_iload_n F dX6_holdsAsTold_70 rfl ?_
    refine jr_iconst F dX6_holdsAsTold_71 ?_
    refine jr_vI F dX6_holdsAsTold_72 cv_X6_44 (c_X6_fact_5 (by omega)) (Nat.le_of_ble_eq_true rfl) rfl rfl rfl rfl (Nat.le_of_ble_eq_true rfl) (Nat.le_of_ble_eq_true rfl) rfl (Nat.le_of_ble_eq_true rfl) ?_
    refine jr_icmp_gt (tgt := 82) F dX6_holdsAsTold_75 (by decide) (fun c75 => ?_) (fun c75 => ?_) (by omega) (by omega)
    · skip
      refine jr_iconst F dX6_holdsAsTold_82 ?_
      exact jr_zret F dX6_holdsAsTold_83 (pI_of (bi_f (by unfold holdw; omega)).symm rfl) (by omega)
    · skip
      refine jr_iconst F dX6_holdsAsTold_78 ?_
      refine jr_goto (tgt := 83) F dX6_holdsAsTold_79 (by decide) ?_
      exact jr_zret F dX6_holdsAsTold_83 (pI_of (bi_t (by unfold holdw; omega)).symm rfl) (by omega)
  · refine jr_tsIn (tgt := 84) F (1) dX6_holdsAsTold_37 c37 (by omega) (by omega) rfl (by decide) (by omega) ?_
    refine jr_iload_n F dX6_holdsAsTold_84 rfl ?_
    refine jr_aload_n F dX6_holdsAsTold_85 rfl ?_
    refine jr_iload_n F dX6_holdsAsTold_86 rfl ?_
    refine jr_iconst F dX6_holdsAsTold_87 ?_
    refine jr_vI F dX6_holdsAsTold_88 cv_X6_66 (c_X6_beginning_5 (by omega) (by omega)) (Nat.le_of_ble_eq_true rfl) rfl rfl rfl rfl (Nat.le_of_ble_eq_true rfl) (Nat.le_of_ble_eq_true rfl) rfl (Nat.le_of_ble_eq_true rfl) ?_
    have b0 : -2200 ≤ begw w t 0 ∧ begw w t 0 ≤ 2200 := by unfold begw; omega
    refine jr_icmp_eq (tgt := 114) F dX6_holdsAsTold_91 (by decide) (fun c91 => ?_) (fun c91 => ?_) (by omega) (by omega)
    · skip
      refine jr_iconst F dX6_holdsAsTold_114 ?_
      refine jr_goto (tgt := 119) F dX6_holdsAsTold_115 (by decide) ?_
      exact jr_zret F dX6_holdsAsTold_119 (pI_of (bi_t (by unfold holdw; omega)).symm rfl) (by omega)
    · skip
      refine jr_iload_n F dX6_holdsAsTold_94 rfl ?_
      refine jr_aload_n F dX6_holdsAsTold_95 rfl ?_
      refine jr_iload_n F dX6_holdsAsTold_96 rfl ?_
      refine jr_iconst F dX6_holdsAsTold_97 ?_
      refine jr_vI F dX6_holdsAsTold_98 cv_X6_66 (c_X6_beginning_5 (by omega) (by omega)) (Nat.le_of_ble_eq_true rfl) rfl rfl rfl rfl (Nat.le_of_ble_eq_true rfl) (Nat.le_of_ble_eq_true rfl) rfl (Nat.le_of_ble_eq_true rfl) ?_
      have b1 : -2200 ≤ begw w t 1 ∧ begw w t 1 ≤ 2200 := by unfold begw; omega
      refine jr_icmp_eq (tgt := 114) F dX6_holdsAsTold_101 (by decide) (fun c101 => ?_) (fun c101 => ?_) (by omega) (by omega)
      · skip
        refine jr_iconst F dX6_holdsAsTold_114 ?_
        refine jr_goto (tgt := 119) F dX6_holdsAsTold_115 (by decide) ?_
        exact jr_zret F dX6_holdsAsTold_119 (pI_of (bi_t (by unfold holdw; omega)).symm rfl) (by omega)
      · skip
        refine jr_iload_n F dX6_holdsAsTold_104 rfl ?_
        refine jr_aload_n F dX6_holdsAsTold_105 rfl ?_
        refine jr_iload_n F dX6_holdsAsTold_106 rfl ?_
        refine jr_iconst F dX6_holdsAsTold_107 ?_
        refine jr_vI F dX6_holdsAsTold_108 cv_X6_66 (c_X6_beginning_5 (by omega) (by omega)) (Nat.le_of_ble_eq_true rfl) rfl rfl rfl rfl (Nat.le_of_ble_eq_true rfl) (Nat.le_of_ble_eq_true rfl) rfl (Nat.le_of_ble_eq_true rfl) ?_
        have b2 : -2200 ≤ begw w t 2 ∧ begw w t 2 ≤ 2200 := by unfold begw; omega
        refine jr_icmp_ne (tgt := 118) F dX6_holdsAsTold_111 (by decide) (fun c111 => ?_) (fun c111 => ?_) (by omega) (by omega)
        · skip
          refine jr_iconst F dX6_holdsAsTold_118 ?_
          exact jr_zret F dX6_holdsAsTold_119 (pI_of (bi_f (by unfold holdw; omega)).symm rfl) (by omega)
        · skip
          refine jr_iconst F dX6_holdsAsTold_114 ?_
          refine jr_goto (tgt := 119) F dX6_holdsAsTold_115 (by decide) ?_
          exact jr_zret F dX6_holdsAsTold_119 (pI_of (bi_t (by unfold holdw; omega)).symm rfl) (by omega)
  · refine jr_tsIn (tgt := 120) F (2) dX6_holdsAsTold_37 c37 (by omega) (by omega) rfl (by decide) (by omega) ?_
    refine jr_iload_n F dX6_holdsAsTold_120 rfl ?_
    refine jr_aload_n F dX6_holdsAsTold_121 rfl ?_
    refine jr_iload_n F dX6_holdsAsTold_122 rfl ?_
    refine jr_iconst F dX6_holdsAsTold_123 ?_
    refine jr_vI F dX6_holdsAsTold_124 cv_X6_66 (c_X6_beginning_5 (by omega) (by omega)) (Nat.le_of_ble_eq_true rfl) rfl rfl rfl rfl (Nat.le_of_ble_eq_true rfl) (Nat.le_of_ble_eq_true rfl) rfl (Nat.le_of_ble_eq_true rfl) ?_
    have b0 : -2200 ≤ begw w t 0 ∧ begw w t 0 ≤ 2200 := by unfold begw; omega
    refine jr_icmp_lt (tgt := 134) F dX6_holdsAsTold_127 (by decide) (fun c127 => ?_) (fun c127 => ?_) (by omega) (by omega)
    · skip
      refine jr_iconst F dX6_holdsAsTold_134 ?_
      exact jr_zret F dX6_holdsAsTold_135 (pI_of (bi_f (by unfold holdw; omega)).symm rfl) (by omega)
    · skip
      refine jr_iconst F dX6_holdsAsTold_130 ?_
      refine jr_goto (tgt := 135) F dX6_holdsAsTold_131 (by decide) ?_
      exact jr_zret F dX6_holdsAsTold_135 (pI_of (bi_t (by unfold holdw; omega)).symm rfl) (by omega)
  · refine jr_tsOut (tgt := 136) F dX6_holdsAsTold_37 c37 (by decide) (by omega) ?_
    refine jr_iload F dX6_holdsAsTold_136 rfl ?_
    refine jr_if_lt (tgt := 145) F dX6_holdsAsTold_138 (by decide) (fun c138 => ?_) (fun c138 => ?_) (by omega)
    · skip
      refine jr_iconst F dX6_holdsAsTold_145 ?_
      exact jr_zret F dX6_holdsAsTold_146 (pI_of (bi_f (by unfold holdw; omega)).symm rfl) (by omega)
    · skip
      refine jr_iconst F dX6_holdsAsTold_141 ?_
      refine jr_goto (tgt := 146) F dX6_holdsAsTold_142 (by decide) ?_
      exact jr_zret F dX6_holdsAsTold_146 (pI_of (bi_t (by unfold holdw; omega)).symm rfl) (by omega)

noncomputable def dgTf (w : Wd) (t : Int) : Nat → Int → Int
  | 0, h => h
  | f + 1, h => 31 * dgTf w t f h + tfa w t (f : Nat)
noncomputable def dgTy (w : Wd) (t : Int) : Nat → Int → Int
  | 0, h => h
  | f + 1, h => 31 * dgTy w t f h + tyr w t (f : Nat)
noncomputable def dgT (w : Wd) : Nat → Int → Int
  | 0, h => h
  | t + 1, h => @ite _ (tfa w (t : Nat) 0 = 1) (Classical.propDecidable _) (dgTy w (t : Nat) 3 (dgTf w (t : Nat) 7 (dgT w t h))) (dgTf w (t : Nat) 7 (dgT w t h))
noncomputable def dgWf (w : Wd) (t : Int) : Nat → Int → Int
  | 0, h => h
  | f + 1, h => 31 * dgWf w t f h + wfa w t ((f : Nat) + 1)
noncomputable def dgW (w : Wd) : Nat → Int → Int
  | 0, h => h
  | t + 1, h => dgWf w (t : Nat) 5 (dgW w t h)
theorem dgTf_s {w : Wd} {t f h : Int} (h0 : 0 ≤ f) : dgTf w t (f + 1).toNat h = 31 * dgTf w t f.toNat h + tfa w t f := by rw [show (f + 1).toNat = f.toNat + 1 by omega, dgTf, Int.toNat_of_nonneg h0]
theorem dgTy_s {w : Wd} {t f h : Int} (h0 : 0 ≤ f) : dgTy w t (f + 1).toNat h = 31 * dgTy w t f.toNat h + tyr w t f := by rw [show (f + 1).toNat = f.toNat + 1 by omega, dgTy, Int.toNat_of_nonneg h0]
theorem dgT_s {w : Wd} {t h : Int} (h0 : 0 ≤ t) : dgT w (t + 1).toNat h = @ite _ (tfa w t 0 = 1) (Classical.propDecidable _) (dgTy w t 3 (dgTf w t 7 (dgT w t.toNat h))) (dgTf w t 7 (dgT w t.toNat h)) := by rw [show (t + 1).toNat = t.toNat + 1 by omega, dgT, Int.toNat_of_nonneg h0]
theorem dgWf_s {w : Wd} {t f h : Int} (h0 : 1 ≤ f) : dgWf w t f.toNat h = 31 * dgWf w t (f - 1).toNat h + wfa w t f := by rw [show f.toNat = (f - 1).toNat + 1 by omega, dgWf, Int.toNat_of_nonneg (by omega), show f - 1 + 1 = f by omega]
theorem dgW_s {w : Wd} {t h : Int} (h0 : 0 ≤ t) : dgW w (t + 1).toNat h = dgWf w t 5 (dgW w t.toNat h) := by rw [show (t + 1).toNat = t.toNat + 1 by omega, dgW, Int.toNat_of_nonneg h0]

set_option maxRecDepth 100000 in
set_option maxHeartbeats 4000000 in
theorem c_X6_digestOn_5 {B : Bs} {w : Wd} {h : Int} (h3 : 0 ≤ w 5 3 ∧ w 5 3 ≤ 8) : Sp (GX B) 2 yX6_digestOn cX6_digestOn 7 (Option.some FieldType.long) [.ref (ga (GX B) (5)), lq (h)] w (pL w (dgT w (w 5 3).toNat h)) := by
  refine Sp.of (by decide) (Nat.le_of_ble_eq_true rfl) (fun X F => ?_)
  refine jr_ok (fun hO => ?_)
  show Jw (GX B) X _ 0 [some (.ref (ga (GX B) (5))), some (lq (h)), none] [] w
  refine jr_lload_n F dX6_digestOn_0 rfl ?_
  refine jr_lstore_n F dX6_digestOn_1 (Nat.le_of_ble_eq_true rfl) rfl ?_
  refine jr_iconst F dX6_digestOn_2 ?_
  refine jr_istore F dX6_digestOn_3 (Nat.le_of_ble_eq_true rfl) rfl ?_
  have L5 : ∀ (fuel : Nat) (i : Int) (z : Int), (w 5 3 - i).toNat < fuel → (0 ≤ i) → (i ≤ w 5 3) → (z = dgT w i.toNat h) → Jw (GX B) X (pL w (dgT w (w 5 3).toNat h)) 5 [some (.ref (ga (GX B) 5)), some (lq h), none, some (lq z), none, some (iv i)] [] w := by
    intro fuel
    induction fuel with
    | zero => intro i z hfuel; exact absurd hfuel (Nat.not_lt_zero _)
    | succ fuel ih5 =>
        intro i z hfuel h0 h1 hz
        refine jr_iload F dX6_digestOn_5 rfl ?_
        refine jr_aload_n F dX6_digestOn_7 rfl ?_
        refine jr_getIx F (w 5 3) dX6_digestOn_8 fg_X6_26 (Nat.le_of_ble_eq_true rfl) rfl rfl rfl (fun q8 => ?_)
        refine jr_icmp_ge (tgt := 94) F dX6_digestOn_11 (by decide) (fun c11 => ?_) (fun c11 => ?_) (by omega) (by omega)
        · skip
          refine jr_lload_n F dX6_digestOn_94 rfl ?_
          exact jr_lret F dX6_digestOn_95 (pL_of (by rw [hz, show i = w 5 3 by omega]) rfl)
        · skip
          refine jr_iconst F dX6_digestOn_14 ?_
          refine jr_istore F dX6_digestOn_15 (Nat.le_of_ble_eq_true rfl) rfl ?_
          have L17 : ∀ (fuel : Nat) (f : Int) (y : Int), (7 - f).toNat < fuel → (0 ≤ f) → (f ≤ 7) → (y = dgTf w i f.toNat (dgT w i.toNat h)) → Jw (GX B) X (pL w (dgT w (w 5 3).toNat h)) 17 [some (.ref (ga (GX B) 5)), some (lq h), none, some (lq y), none, some (iv i), some (iv f)] [] w := by
            intro fuel
            induction fuel with
            | zero => intro f y hfuel; exact absurd hfuel (Nat.not_lt_zero _)
            | succ fuel ih17 =>
                intro f y hfuel g0 g1 hy
                refine jr_iload F dX6_digestOn_17 rfl ?_
                refine jr_bipush F dX6_digestOn_19 (by decide) ?_
                refine jr_icmp_ge (tgt := 46) F dX6_digestOn_21 (by decide) (fun c21 => ?_) (fun c21 => ?_) (by omega) (by omega)
                · skip
                  obtain rfl : f = 7 := by omega
                  rw [show (7 : Int).toNat = 7 from rfl] at hy
                  subst hy
                  refine jr_iconst F dX6_digestOn_46 ?_
                  refine jr_istore F dX6_digestOn_47 (Nat.le_of_ble_eq_true rfl) rfl ?_
                  have L49 : ∀ (fuel : Nat) (f : Int) (x : Int), (3 - f).toNat < fuel → (0 ≤ f) → (f ≤ 3) → (f = 0 ∨ tfa w i 0 = 1) → (x = dgTy w i f.toNat (dgTf w i 7 (dgT w i.toNat h))) → Jw (GX B) X (pL w (dgT w (w 5 3).toNat h)) 49 [some (.ref (ga (GX B) 5)), some (lq h), none, some (lq x), none, some (iv i), some (iv f)] [] w := by
                    intro fuel
                    induction fuel with
                    | zero => intro f x hfuel; exact absurd hfuel (Nat.not_lt_zero _)
                    | succ fuel ih49 =>
                        intro f x hfuel k0 k1 kx hx
                        refine jr_iload F dX6_digestOn_49 rfl ?_
                        refine jr_iconst F dX6_digestOn_51 ?_
                        refine jr_icmp_ge (tgt := 88) F dX6_digestOn_52 (by decide) (fun c52 => ?_) (fun c52 => ?_) (by omega) (by omega)
                        · skip
                          obtain rfl : f = 3 := by omega
                          have c0 : tfa w i 0 = 1 := by omega
                          have hy : x = dgTy w i 3 (dgTf w i 7 (dgT w i.toNat h)) := hx
                          refine jr_iinc F dX6_digestOn_88 rfl (Nat.le_of_ble_eq_true rfl) rfl ?_
                          refine jr_goto (tgt := 5) F dX6_digestOn_91 (by decide) ?_
                          exact jr_sub (ih5 (i + 1) _ (by omega) (by omega) (by omega) (by rw [dgT_s h0]; first | rw [if_pos (by omega), hy] | rw [if_neg (by omega), hx])) ⟨rfl, rfl, rfl, rfl, trivial⟩
                        · skip
                          refine jr_aload_n F dX6_digestOn_55 rfl ?_
                          refine jr_iload F dX6_digestOn_56 rfl ?_
                          refine jr_iconst F dX6_digestOn_58 ?_
                          refine jr_vI F dX6_digestOn_59 cv_X6_44 (c_X6_fact_5 (by omega)) (Nat.le_of_ble_eq_true rfl) rfl rfl rfl rfl (Nat.le_of_ble_eq_true rfl) (Nat.le_of_ble_eq_true rfl) rfl (Nat.le_of_ble_eq_true rfl) ?_
                          refine jr_iconst F dX6_digestOn_62 ?_
                          refine jr_icmp_ne (tgt := 88) F dX6_digestOn_63 (by decide) (fun c63 => ?_) (fun c63 => ?_) (tfa_R hO i 0) (by omega)
                          · skip
                            obtain rfl : f = 0 := by omega
                            rw [show (0 : Int).toNat = 0 from rfl, dgTy] at hx
                            refine jr_iinc F dX6_digestOn_88 rfl (Nat.le_of_ble_eq_true rfl) rfl ?_
                            refine jr_goto (tgt := 5) F dX6_digestOn_91 (by decide) ?_
                            exact jr_sub (ih5 (i + 1) _ (by omega) (by omega) (by omega) (by rw [dgT_s h0]; first | rw [if_pos (by omega), hy] | rw [if_neg (by omega), hx])) ⟨rfl, rfl, rfl, rfl, trivial⟩
                          · skip
                            refine jr_ldc2 (z := 31) F dX6_digestOn_66 (tb_in 878 (by decide +kernel) (by decide +kernel)) ?_
                            refine jr_lload_n F dX6_digestOn_69 rfl ?_
                            refine jr_lmul F dX6_digestOn_70 ?_
                            refine jr_aload_n F dX6_digestOn_71 rfl ?_
                            refine jr_iload F dX6_digestOn_72 rfl ?_
                            refine jr_iload F dX6_digestOn_74 rfl ?_
                            refine jr_vI F dX6_digestOn_76 cv_X6_71 (c_X6_year_5 (by omega)) (Nat.le_of_ble_eq_true rfl) rfl rfl rfl rfl (Nat.le_of_ble_eq_true rfl) (Nat.le_of_ble_eq_true rfl) rfl (Nat.le_of_ble_eq_true rfl) ?_
                            refine jr_i2l F dX6_digestOn_79 (tyr_R hO i f) ?_
                            refine jr_ladd F dX6_digestOn_80 ?_
                            refine jr_lstore_n F dX6_digestOn_81 (Nat.le_of_ble_eq_true rfl) rfl ?_
                            refine jr_iinc F dX6_digestOn_82 rfl (Nat.le_of_ble_eq_true rfl) rfl ?_
                            refine jr_goto (tgt := 49) F dX6_digestOn_85 (by decide) ?_
                            exact jr_sub (ih49 (f + 1) _ (by omega) (by omega) (by omega) (Or.inr c63) (by rw [dgTy_s k0, hx])) ⟨rfl, rfl, rfl, rfl, rfl, trivial⟩
                  exact jr_sub (L49 _ 0 _ (Nat.lt_succ_self _) (by omega) (by omega) (Or.inl rfl) rfl) ⟨rfl, rfl, rfl, rfl, rfl, trivial⟩
                · skip
                  refine jr_ldc2 (z := 31) F dX6_digestOn_24 (tb_in 878 (by decide +kernel) (by decide +kernel)) ?_
                  refine jr_lload_n F dX6_digestOn_27 rfl ?_
                  refine jr_lmul F dX6_digestOn_28 ?_
                  refine jr_aload_n F dX6_digestOn_29 rfl ?_
                  refine jr_iload F dX6_digestOn_30 rfl ?_
                  refine jr_iload F dX6_digestOn_32 rfl ?_
                  refine jr_vI F dX6_digestOn_34 cv_X6_44 (c_X6_fact_5 (by omega)) (Nat.le_of_ble_eq_true rfl) rfl rfl rfl rfl (Nat.le_of_ble_eq_true rfl) (Nat.le_of_ble_eq_true rfl) rfl (Nat.le_of_ble_eq_true rfl) ?_
                  refine jr_i2l F dX6_digestOn_37 (tfa_R hO i f) ?_
                  refine jr_ladd F dX6_digestOn_38 ?_
                  refine jr_lstore_n F dX6_digestOn_39 (Nat.le_of_ble_eq_true rfl) rfl ?_
                  refine jr_iinc F dX6_digestOn_40 rfl (Nat.le_of_ble_eq_true rfl) rfl ?_
                  refine jr_goto (tgt := 17) F dX6_digestOn_43 (by decide) ?_
                  exact jr_sub (ih17 (f + 1) _ (by omega) (by omega) (by omega) (by rw [dgTf_s g0, hy])) ⟨rfl, rfl, rfl, rfl, rfl, trivial⟩
          exact jr_sub (L17 _ 0 _ (Nat.lt_succ_self _) (by omega) (by omega) hz) ⟨rfl, rfl, rfl, rfl, rfl, trivial⟩
  exact jr_sub (L5 _ 0 h (Nat.lt_succ_self _) (by omega) (by omega) rfl) ⟨rfl, rfl, rfl, rfl, trivial⟩

set_option maxRecDepth 100000 in
set_option maxHeartbeats 4000000 in
theorem c_X6_digestPairsOn_8 {B : Bs} {w : Wd} {h : Int} (h3 : 0 ≤ w 8 3 ∧ w 8 3 ≤ 8) : Sp (GX B) 2 yX6_digestPairsOn cX6_digestPairsOn 7 (Option.some FieldType.long) [.ref (ga (GX B) (8)), lq (h)] w (pL w (dgW w (w 8 3).toNat h)) := by
  refine Sp.of (by decide) (Nat.le_of_ble_eq_true rfl) (fun X F => ?_)
  refine jr_ok (fun hO => ?_)
  show Jw (GX B) X _ 0 [some (.ref (ga (GX B) (8))), some (lq (h)), none] [] w
  refine jr_lload_n F dX6_digestPairsOn_0 rfl ?_
  refine jr_lstore_n F dX6_digestPairsOn_1 (Nat.le_of_ble_eq_true rfl) rfl ?_
  refine jr_iconst F dX6_digestPairsOn_2 ?_
  refine jr_istore F dX6_digestPairsOn_3 (Nat.le_of_ble_eq_true rfl) rfl ?_
  have L5 : ∀ (fuel : Nat) (i : Int) (z : Int), (w 8 3 - i).toNat < fuel → (0 ≤ i) → (i ≤ w 8 3) → (z = dgW w i.toNat h) → Jw (GX B) X (pL w (dgW w (w 8 3).toNat h)) 5 [some (.ref (ga (GX B) 8)), some (lq h), none, some (lq z), none, some (iv i)] [] w := by
    intro fuel
    induction fuel with
    | zero => intro i z hfuel; exact absurd hfuel (Nat.not_lt_zero _)
    | succ fuel ih5 =>
        intro i z hfuel h0 h1 hz
        refine jr_iload F dX6_digestPairsOn_5 rfl ?_
        refine jr_aload_n F dX6_digestPairsOn_7 rfl ?_
        refine jr_getIx F (w 8 3) dX6_digestPairsOn_8 fg_X6_26 (Nat.le_of_ble_eq_true rfl) rfl rfl rfl (fun q8 => ?_)
        refine jr_icmp_ge (tgt := 51) F dX6_digestPairsOn_11 (by decide) (fun c11 => ?_) (fun c11 => ?_) (by omega) (by omega)
        · skip
          refine jr_lload_n F dX6_digestPairsOn_51 rfl ?_
          exact jr_lret F dX6_digestPairsOn_52 (pL_of (by rw [hz, show i = w 8 3 by omega]) rfl)
        · skip
          refine jr_iconst F dX6_digestPairsOn_14 ?_
          refine jr_istore F dX6_digestPairsOn_15 (Nat.le_of_ble_eq_true rfl) rfl ?_
          have L17 : ∀ (fuel : Nat) (f : Int) (y : Int), (6 - f).toNat < fuel → (1 ≤ f) → (f ≤ 6) → (y = dgWf w i (f - 1).toNat (dgW w i.toNat h)) → Jw (GX B) X (pL w (dgW w (w 8 3).toNat h)) 17 [some (.ref (ga (GX B) 8)), some (lq h), none, some (lq y), none, some (iv i), some (iv f)] [] w := by
            intro fuel
            induction fuel with
            | zero => intro f y hfuel; exact absurd hfuel (Nat.not_lt_zero _)
            | succ fuel ih17 =>
                intro f y hfuel g0 g1 hy
                refine jr_iload F dX6_digestPairsOn_17 rfl ?_
                refine jr_iconst F dX6_digestPairsOn_19 ?_
                refine jr_icmp_gt (tgt := 45) F dX6_digestPairsOn_20 (by decide) (fun c20 => ?_) (fun c20 => ?_) (by omega) (by omega)
                · skip
                  obtain rfl : f = 6 := by omega
                  rw [show ((6 : Int) - 1).toNat = 5 from rfl] at hy
                  refine jr_iinc F dX6_digestPairsOn_45 rfl (Nat.le_of_ble_eq_true rfl) rfl ?_
                  refine jr_goto (tgt := 5) F dX6_digestPairsOn_48 (by decide) ?_
                  exact jr_sub (ih5 (i + 1) _ (by omega) (by omega) (by omega) (by rw [dgW_s h0, hy])) ⟨rfl, rfl, rfl, rfl, trivial⟩
                · skip
                  refine jr_ldc2 (z := 31) F dX6_digestPairsOn_23 (tb_in 878 (by decide +kernel) (by decide +kernel)) ?_
                  refine jr_lload_n F dX6_digestPairsOn_26 rfl ?_
                  refine jr_lmul F dX6_digestPairsOn_27 ?_
                  refine jr_aload_n F dX6_digestPairsOn_28 rfl ?_
                  refine jr_iload F dX6_digestPairsOn_29 rfl ?_
                  refine jr_iload F dX6_digestPairsOn_31 rfl ?_
                  refine jr_vI F dX6_digestPairsOn_33 cv_X6_44 (c_X6_fact_8 (by omega)) (Nat.le_of_ble_eq_true rfl) rfl rfl rfl rfl (Nat.le_of_ble_eq_true rfl) (Nat.le_of_ble_eq_true rfl) rfl (Nat.le_of_ble_eq_true rfl) ?_
                  refine jr_i2l F dX6_digestPairsOn_36 (wfa_R hO i f) ?_
                  refine jr_ladd F dX6_digestPairsOn_37 ?_
                  refine jr_lstore_n F dX6_digestPairsOn_38 (Nat.le_of_ble_eq_true rfl) rfl ?_
                  refine jr_iinc F dX6_digestPairsOn_39 rfl (Nat.le_of_ble_eq_true rfl) rfl ?_
                  refine jr_goto (tgt := 17) F dX6_digestPairsOn_42 (by decide) ?_
                  exact jr_sub (ih17 (f + 1) _ (by omega) (by omega) (by omega) (by rw [show f + 1 - 1 = f by omega, dgWf_s g0, hy])) ⟨rfl, rfl, rfl, rfl, rfl, trivial⟩
          exact jr_sub (L17 _ 1 _ (Nat.lt_succ_self _) (by omega) (by omega) hz) ⟨rfl, rfl, rfl, rfl, rfl, trivial⟩
  exact jr_sub (L5 _ 0 h (Nat.lt_succ_self _) (by omega) (by omega) rfl) ⟨rfl, rfl, rfl, rfl, trivial⟩

