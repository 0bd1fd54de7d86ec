noncomputable def abow (w : Wd) (r f : Int) : Int := if 0 ≤ r ∧ r < w 1 3 then (if 0 ≤ f ∧ f ≤ 5 then fa w r f else -102) else -101
noncomputable def tidw (w : Wd) (t f : Int) : Int := if 0 ≤ t ∧ t < w 5 3 then (if 0 ≤ f ∧ f ≤ 6 then tfa w t f else -102) else -101
noncomputable def asw (w : Wd) (r k : Int) : Int := if 0 ≤ r ∧ r < w 1 3 then (if 0 ≤ k ∧ k ≤ 6 then (if k = 0 ∨ fa w r 1 = k ∨ fa w r 1 = 6 ∧ k = 3 then r else -1) else -102) else -101

set_option maxRecDepth 100000 in
set_option maxHeartbeats 4000000 in
theorem c_X7_arePlaces {B : Bs} {w : Wd} {x y : Int} (hx : inR x) (hy : inR y) : Sp (GX B) 1 yX7_arePlaces cX7_arePlaces 2 (Option.some FieldType.boolean) [iv (x), iv (y)] w (pI w (bi ((1 ≤ x ∧ x ≤ 99) ∧ (1 ≤ y ∧ y ≤ 99)))) := by
  refine Sp.of (by decide) (Nat.le_of_ble_eq_true rfl) (fun X F => ?_)
  show Jw (GX B) X _ 0 [some (iv (x)), some (iv (y))] [] w
  refine jr_iload_n F dX7_arePlaces_0 rfl ?_
  refine jr_iconst F dX7_arePlaces_1 ?_
  refine jr_bipush F dX7_arePlaces_2 (by decide) ?_
  refine jr_sI F dX7_arePlaces_4 cs_X7_65 (c_X7_within (by omega) (by omega) (by omega)) rfl (Nat.le_of_ble_eq_true rfl) (Nat.le_of_ble_eq_true rfl) rfl (Nat.le_of_ble_eq_true rfl) ?_
  refine jr_ifeq_b (tgt := 24) F dX7_arePlaces_7 (by decide) (fun c7 => ?_) (fun c7 => ?_)
  · skip
    refine jr_iconst F dX7_arePlaces_24 ?_
    exact jr_zret F dX7_arePlaces_25 (pI_of (bi_f (by omega)).symm rfl) (by omega)
  · skip
    refine jr_iload_n F dX7_arePlaces_10 rfl ?_
    refine jr_iconst F dX7_arePlaces_11 ?_
    refine jr_bipush F dX7_arePlaces_12 (by decide) ?_
    refine jr_sI F dX7_arePlaces_14 cs_X7_65 (c_X7_within (by omega) (by omega) (by omega)) rfl (Nat.le_of_ble_eq_true rfl) (Nat.le_of_ble_eq_true rfl) rfl (Nat.le_of_ble_eq_true rfl) ?_
    refine jr_ifeq_b (tgt := 24) F dX7_arePlaces_17 (by decide) (fun c17 => ?_) (fun c17 => ?_)
    · skip
      refine jr_iconst F dX7_arePlaces_24 ?_
      exact jr_zret F dX7_arePlaces_25 (pI_of (bi_f (by omega)).symm rfl) (by omega)
    · skip
      refine jr_iconst F dX7_arePlaces_20 ?_
      refine jr_goto (tgt := 25) F dX7_arePlaces_21 (by decide) ?_
      exact jr_zret F dX7_arePlaces_25 (pI_of (bi_t (by omega)).symm rfl) (by omega)

set_option maxRecDepth 100000 in
set_option maxHeartbeats 4000000 in
theorem c_X7_arePair {B : Bs} {w : Wd} {a b : Int} (ha : inR a) (hb : inR b) : Sp (GX B) 1 yX7_arePair cX7_arePair 3 (Option.some FieldType.boolean) [.ref (ga (GX B) (0)), iv (a), iv (b)] w (pI w (bi ((0 ≤ a ∧ a < w 1 3) ∧ (0 ≤ b ∧ b < w 1 3) ∧ ¬ a = b))) := by
  refine Sp.of (by decide) (Nat.le_of_ble_eq_true rfl) (fun X F => ?_)
  show Jw (GX B) X _ 0 [some (.ref (ga (GX B) (0))), some (iv (a)), some (iv (b))] [] w
  refine jr_aload_n F dX7_arePair_0 rfl ?_
  refine jr_getR (t := 1) F dX7_arePair_1 fg_X7_10 (Nat.le_of_ble_eq_true rfl) rfl rfl ?_
  refine jr_iload_n F dX7_arePair_4 rfl ?_
  refine jr_vI F dX7_arePair_5 cv_X7_85 (c_X3_has (by omega)) (Nat.le_of_ble_eq_true rfl) rfl rfl rfl rfl (Nat.le_of_ble_eq_true rfl) (Nat.le_of_ble_eq_true rfl) rfl (Nat.le_of_ble_eq_true rfl) ?_
  refine jr_ifeq_b (tgt := 31) F dX7_arePair_8 (by decide) (fun c8 => ?_) (fun c8 => ?_)
  · skip
    refine jr_iconst F dX7_arePair_31 ?_
    exact jr_zret F dX7_arePair_32 (pI_of (bi_f (by omega)).symm rfl) (by omega)
  · skip
    refine jr_aload_n F dX7_arePair_11 rfl ?_
    refine jr_getR (t := 1) F dX7_arePair_12 fg_X7_10 (Nat.le_of_ble_eq_true rfl) rfl rfl ?_
    refine jr_iload_n F dX7_arePair_15 rfl ?_
    refine jr_vI F dX7_arePair_16 cv_X7_85 (c_X3_has (by omega)) (Nat.le_of_ble_eq_true rfl) rfl rfl rfl rfl (Nat.le_of_ble_eq_true rfl) (Nat.le_of_ble_eq_true rfl) rfl (Nat.le_of_ble_eq_true rfl) ?_
    refine jr_ifeq_b (tgt := 31) F dX7_arePair_19 (by decide) (fun c19 => ?_) (fun c19 => ?_)
    · skip
      refine jr_iconst F dX7_arePair_31 ?_
      exact jr_zret F dX7_arePair_32 (pI_of (bi_f (by omega)).symm rfl) (by omega)
    · skip
      refine jr_iload_n F dX7_arePair_22 rfl ?_
      refine jr_iload_n F dX7_arePair_23 rfl ?_
      refine jr_icmp_eq (tgt := 31) F dX7_arePair_24 (by decide) (fun c24 => ?_) (fun c24 => ?_) (by omega) (by omega)
      · skip
        refine jr_iconst F dX7_arePair_31 ?_
        exact jr_zret F dX7_arePair_32 (pI_of (bi_f (by omega)).symm rfl) (by omega)
      · skip
        refine jr_iconst F dX7_arePair_27 ?_
        refine jr_goto (tgt := 32) F dX7_arePair_28 (by decide) ?_
        exact jr_zret F dX7_arePair_32 (pI_of (bi_t (by omega)).symm rfl) (by omega)

set_option maxRecDepth 100000 in
set_option maxHeartbeats 4000000 in
theorem c_X7_about {B : Bs} {w : Wd} {r f : Int} (h3 : 0 ≤ w 1 3 ∧ w 1 3 ≤ 10) (hr : inR r) (hf : inR f) : Sp (GX B) 2 yX7_about cX7_about 3 (Option.some FieldType.int) [.ref (ga (GX B) (0)), iv (r), iv (f)] w (pI w (abow w r f)) := by
  refine Sp.of (by decide) (Nat.le_of_ble_eq_true rfl) (fun X F => ?_)
  show Jw (GX B) X _ 0 [some (.ref (ga (GX B) (0))), some (iv (r)), some (iv (f))] [] w
  refine jr_aload_n F dX7_about_0 rfl ?_
  refine jr_getR (t := 1) F dX7_about_1 fg_X7_10 (Nat.le_of_ble_eq_true rfl) rfl rfl ?_
  refine jr_iload_n F dX7_about_4 rfl ?_
  refine jr_vI F dX7_about_5 cv_X7_85 (c_X3_has (by omega)) (Nat.le_of_ble_eq_true rfl) rfl rfl rfl rfl (Nat.le_of_ble_eq_true rfl) (Nat.le_of_ble_eq_true rfl) rfl (Nat.le_of_ble_eq_true rfl) ?_
  refine jr_ifne_b (tgt := 14) F dX7_about_8 (by decide) (fun c8 => ?_) (fun c8 => ?_)
  · skip
    refine jr_iload_n F dX7_about_14 rfl ?_
    refine jr_iconst F dX7_about_15 ?_
    refine jr_iconst F dX7_about_16 ?_
    refine jr_sI F dX7_about_17 cs_X7_65 (c_X7_within (by omega) (by omega) (by omega)) rfl (Nat.le_of_ble_eq_true rfl) (Nat.le_of_ble_eq_true rfl) rfl (Nat.le_of_ble_eq_true rfl) ?_
    refine jr_ifeq_b (tgt := 35) F dX7_about_20 (by decide) (fun c20 => ?_) (fun c20 => ?_)
    · skip
      refine jr_bipush F dX7_about_35 (by decide) ?_
      exact jr_iret F dX7_about_37 (pI_of (by unfold abow; (repeat' split) <;> first | rfl | omega) rfl)
    · skip
      refine jr_aload_n F dX7_about_23 rfl ?_
      refine jr_getR (t := 1) F dX7_about_24 fg_X7_10 (Nat.le_of_ble_eq_true rfl) rfl rfl ?_
      refine jr_iload_n F dX7_about_27 rfl ?_
      refine jr_iload_n F dX7_about_28 rfl ?_
      refine jr_vI F dX7_about_29 cv_X7_88 (c_X3_fact (by omega)) (Nat.le_of_ble_eq_true rfl) rfl rfl rfl rfl (Nat.le_of_ble_eq_true rfl) (Nat.le_of_ble_eq_true rfl) rfl (Nat.le_of_ble_eq_true rfl) ?_
      refine jr_goto (tgt := 37) F dX7_about_32 (by decide) ?_
      exact jr_iret F dX7_about_37 (pI_of (by unfold abow; (repeat' split) <;> first | rfl | omega) rfl)
  · skip
    refine jr_bipush F dX7_about_11 (by decide) ?_
    exact jr_iret F dX7_about_13 (pI_of (by unfold abow; (repeat' split) <;> first | rfl | omega) rfl)

set_option maxRecDepth 100000 in
set_option maxHeartbeats 4000000 in
theorem c_X7_tied {B : Bs} {w : Wd} {t f : Int} (h3 : 0 ≤ w 5 3 ∧ w 5 3 ≤ 8) (hr : inR t) (hf : inR f) : Sp (GX B) 2 yX7_tied cX7_tied 3 (Option.some FieldType.int) [.ref (ga (GX B) (0)), iv (t), iv (f)] w (pI w (tidw w t f)) := by
  refine Sp.of (by decide) (Nat.le_of_ble_eq_true rfl) (fun X F => ?_)
  show Jw (GX B) X _ 0 [some (.ref (ga (GX B) (0))), some (iv (t)), some (iv (f))] [] w
  refine jr_aload_n F dX7_tied_0 rfl ?_
  refine jr_getR (t := 5) F dX7_tied_1 fg_X7_21 (Nat.le_of_ble_eq_true rfl) rfl rfl ?_
  refine jr_iload_n F dX7_tied_4 rfl ?_
  refine jr_vI F dX7_tied_5 cv_X7_137 (c_X6_has_5 (by omega)) (Nat.le_of_ble_eq_true rfl) rfl rfl rfl rfl (Nat.le_of_ble_eq_true rfl) (Nat.le_of_ble_eq_true rfl) rfl (Nat.le_of_ble_eq_true rfl) ?_
  refine jr_ifne_b (tgt := 14) F dX7_tied_8 (by decide) (fun c8 => ?_) (fun c8 => ?_)
  · skip
    refine jr_iload_n F dX7_tied_14 rfl ?_
    refine jr_iconst F dX7_tied_15 ?_
    refine jr_bipush F dX7_tied_16 (by decide) ?_
    refine jr_sI F dX7_tied_18 cs_X7_65 (c_X7_within (by omega) (by omega) (by omega)) rfl (Nat.le_of_ble_eq_true rfl) (Nat.le_of_ble_eq_true rfl) rfl (Nat.le_of_ble_eq_true rfl) ?_
    refine jr_ifeq_b (tgt := 36) F dX7_tied_21 (by decide) (fun c21 => ?_) (fun c21 => ?_)
    · skip
      refine jr_bipush F dX7_tied_36 (by decide) ?_
      exact jr_iret F dX7_tied_38 (pI_of (by unfold tidw; (repeat' split) <;> first | rfl | omega) rfl)
    · skip
      refine jr_aload_n F dX7_tied_24 rfl ?_
      refine jr_getR (t := 5) F dX7_tied_25 fg_X7_21 (Nat.le_of_ble_eq_true rfl) rfl rfl ?_
      refine jr_iload_n F dX7_tied_28 rfl ?_
      refine jr_iload_n F dX7_tied_29 rfl ?_
      refine jr_vI F dX7_tied_30 cv_X7_138 (c_X6_fact_5 (by omega)) (Nat.le_of_ble_eq_true rfl) rfl rfl rfl rfl (Nat.le_of_ble_eq_true rfl) (Nat.le_of_ble_eq_true rfl) rfl (Nat.le_of_ble_eq_true rfl) ?_
      refine jr_goto (tgt := 38) F dX7_tied_33 (by decide) ?_
      exact jr_iret F dX7_tied_38 (pI_of (by unfold tidw; (repeat' split) <;> first | rfl | omega) rfl)
  · skip
    refine jr_bipush F dX7_tied_11 (by decide) ?_
    exact jr_iret F dX7_tied_13 (pI_of (by unfold tidw; (repeat' split) <;> first | rfl | omega) rfl)

noncomputable def cousw (w : Wd) (s r : Int) : Int := if (s = 0 ∨ s = 1) ∧ 0 ≤ r ∧ r < w 1 3 then cntw w s r else -101
noncomputable def belsw (w : Wd) (s t : Int) : Int := if (s = 0 ∨ s = 1) ∧ 0 ≤ t ∧ t < w 5 3 then blfw w s t else -101

set_option maxRecDepth 100000 in
set_option maxHeartbeats 4000000 in
theorem c_X7_as {B : Bs} {w : Wd} {r k : Int} (h3 : 0 ≤ w 1 3 ∧ w 1 3 ≤ 10) (hr : inR r) (hk : inR k) : Sp (GX B) 2 yX7_as cX7_as 3 (Option.some FieldType.int) [.ref (ga (GX B) (0)), iv (r), iv (k)] w (pI w (asw w r k)) := by
  refine Sp.of (by decide) (Nat.le_of_ble_eq_true rfl) (fun X F => ?_)
  refine jr_ok (fun hO => ?_)
  have q1 := fa_R hO r 1
  show Jw (GX B) X _ 0 [some (.ref (ga (GX B) (0))), some (iv (r)), some (iv (k))] [] w
  refine jr_aload_n F dX7_as_0 rfl ?_
  refine jr_getR (t := 1) F dX7_as_1 fg_X7_10 (Nat.le_of_ble_eq_true rfl) rfl rfl ?_
  refine jr_iload_n F dX7_as_4 rfl ?_
  refine jr_vI F dX7_as_5 cv_X7_85 (c_X3_has (by omega)) (Nat.le_of_ble_eq_true rfl) rfl rfl rfl rfl (Nat.le_of_ble_eq_true rfl) (Nat.le_of_ble_eq_true rfl) rfl (Nat.le_of_ble_eq_true rfl) ?_
  refine jr_ifne_b (tgt := 14) F dX7_as_8 (by decide) (fun c8 => ?_) (fun c8 => ?_)
  · skip
    refine jr_iload_n F dX7_as_14 rfl ?_
    refine jr_iconst F dX7_as_15 ?_
    refine jr_bipush F dX7_as_16 (by decide) ?_
    refine jr_sI F dX7_as_18 cs_X7_65 (c_X7_within (by omega) (by omega) (by omega)) rfl (Nat.le_of_ble_eq_true rfl) (Nat.le_of_ble_eq_true rfl) rfl (Nat.le_of_ble_eq_true rfl) ?_
    refine jr_ifne_b (tgt := 27) F dX7_as_21 (by decide) (fun c21 => ?_) (fun c21 => ?_)
    · skip
      refine jr_aload_n F dX7_as_27 rfl ?_
      refine jr_getR (t := 1) F dX7_as_28 fg_X7_10 (Nat.le_of_ble_eq_true rfl) rfl rfl ?_
      refine jr_iload_n F dX7_as_31 rfl ?_
      refine jr_iconst F dX7_as_32 ?_
      refine jr_vI F dX7_as_33 cv_X7_88 (c_X3_fact (by omega)) (Nat.le_of_ble_eq_true rfl) rfl rfl rfl rfl (Nat.le_of_ble_eq_true rfl) (Nat.le_of_ble_eq_true rfl) rfl (Nat.le_of_ble_eq_true rfl) ?_
      refine jr_iload_n F dX7_as_36 rfl ?_
      refine jr_sI F dX7_as_37 cs_X7_92 (c_X3_isOf (by omega) (by omega)) rfl (Nat.le_of_ble_eq_true rfl) (Nat.le_of_ble_eq_true rfl) rfl (Nat.le_of_ble_eq_true rfl) ?_
      refine jr_ifeq_b (tgt := 47) F dX7_as_40 (by decide) (fun c40 => ?_) (fun c40 => ?_)
      · skip
        refine jr_iconst F dX7_as_47 ?_
        exact jr_iret F dX7_as_48 (pI_of (by unfold asw; (repeat' split) <;> first | rfl | omega) rfl)
      · skip
        refine jr_iload_n F dX7_as_43 rfl ?_
        refine jr_goto (tgt := 48) F dX7_as_44 (by decide) ?_
        exact jr_iret F dX7_as_48 (pI_of (by unfold asw; (repeat' split) <;> first | rfl | omega) rfl)
    · skip
      refine jr_bipush F dX7_as_24 (by decide) ?_
      exact jr_iret F dX7_as_26 (pI_of (by unfold asw; (repeat' split) <;> first | rfl | omega) rfl)
  · skip
    refine jr_bipush F dX7_as_11 (by decide) ?_
    exact jr_iret F dX7_as_13 (pI_of (by unfold asw; (repeat' split) <;> first | rfl | omega) rfl)

set_option maxRecDepth 100000 in
set_option maxHeartbeats 4000000 in
theorem c_X7_counts {B : Bs} {w : Wd} {s r : Int} (hS : SOK w) (h3 : w 1 3 ≤ 10) (hs : inR s) (hr : inR r) : Sp (GX B) 5 yX7_counts cX7_counts 3 (Option.some FieldType.int) [.ref (ga (GX B) (0)), iv (s), iv (r)] w (pE (fun x u => x = cousw w s r ∧ sq w u)) := by
  refine Sp.of (by decide) (Nat.le_of_ble_eq_true rfl) (fun X F => ?_)
  show Jw (GX B) X _ 0 [some (.ref (ga (GX B) (0))), some (iv (s)), some (iv (r))] [] w
  refine jr_iload_n F dX7_counts_0 rfl ?_
  refine jr_sI F dX7_counts_1 cs_X7_161 (c_X7_isSchool (by omega)) rfl (Nat.le_of_ble_eq_true rfl) (Nat.le_of_ble_eq_true rfl) rfl (Nat.le_of_ble_eq_true rfl) ?_
  refine jr_ifeq_b (tgt := 18) F dX7_counts_4 (by decide) (fun c4 => ?_) (fun c4 => ?_)
  · skip
    refine jr_bipush F dX7_counts_18 (by decide) ?_
    exact jr_iret F dX7_counts_20 (pE_of ⟨by unfold cousw; rw [if_neg (by omega)], sq_r w⟩)
  · skip
    refine jr_aload_n F dX7_counts_7 rfl ?_
    refine jr_getR (t := 1) F dX7_counts_8 fg_X7_10 (Nat.le_of_ble_eq_true rfl) rfl rfl ?_
    refine jr_iload_n F dX7_counts_11 rfl ?_
    refine jr_vI F dX7_counts_12 cv_X7_85 (c_X3_has (by omega)) (Nat.le_of_ble_eq_true rfl) rfl rfl rfl rfl (Nat.le_of_ble_eq_true rfl) (Nat.le_of_ble_eq_true rfl) rfl (Nat.le_of_ble_eq_true rfl) ?_
    refine jr_ifne_b (tgt := 21) F dX7_counts_15 (by decide) (fun c15 => ?_) (fun c15 => ?_)
    · skip
      refine jr_aload_n F dX7_counts_21 rfl ?_
      refine jr_iload_n F dX7_counts_22 rfl ?_
      refine jr_iload_n F dX7_counts_23 rfl ?_
      refine jr_vE F dX7_counts_24 cv_X7_180 (c_count c4 hS (by omega)) (Nat.le_of_ble_eq_true rfl) rfl rfl rfl rfl (Nat.le_of_ble_eq_true rfl) (Nat.le_of_ble_eq_true rfl) rfl (Nat.le_of_ble_eq_true rfl) (fun r24 w24 h24 => ?_)
      exact jr_iret F dX7_counts_27 (pE_of ⟨by unfold cousw; rw [if_pos ⟨c4, c15⟩]; exact h24.1, e17_sq h24.2⟩)
    · skip
      refine jr_bipush F dX7_counts_18 (by decide) ?_
      exact jr_iret F dX7_counts_20 (pE_of ⟨by unfold cousw; rw [if_neg (by omega)], sq_r w⟩)

set_option maxRecDepth 100000 in
set_option maxHeartbeats 4000000 in
theorem c_X7_believes {B : Bs} {w : Wd} {s r : Int} (hS : SOK w) (h3 : w 5 3 ≤ 8) (hs : inR s) (hr : inR r) : Sp (GX B) 5 yX7_believes cX7_believes 3 (Option.some FieldType.int) [.ref (ga (GX B) (0)), iv (s), iv (r)] w (pE (fun x u => x = belsw w s r ∧ sq w u)) := by
  refine Sp.of (by decide) (Nat.le_of_ble_eq_true rfl) (fun X F => ?_)
  show Jw (GX B) X _ 0 [some (.ref (ga (GX B) (0))), some (iv (s)), some (iv (r))] [] w
  refine jr_iload_n F dX7_believes_0 rfl ?_
  refine jr_sI F dX7_believes_1 cs_X7_161 (c_X7_isSchool (by omega)) rfl (Nat.le_of_ble_eq_true rfl) (Nat.le_of_ble_eq_true rfl) rfl (Nat.le_of_ble_eq_true rfl) ?_
  refine jr_ifeq_b (tgt := 18) F dX7_believes_4 (by decide) (fun c4 => ?_) (fun c4 => ?_)
  · skip
    refine jr_bipush F dX7_believes_18 (by decide) ?_
    exact jr_iret F dX7_believes_20 (pE_of ⟨by unfold belsw; rw [if_neg (by omega)], sq_r w⟩)
  · skip
    refine jr_aload_n F dX7_believes_7 rfl ?_
    refine jr_getR (t := 5) F dX7_believes_8 fg_X7_21 (Nat.le_of_ble_eq_true rfl) rfl rfl ?_
    refine jr_iload_n F dX7_believes_11 rfl ?_
    refine jr_vI F dX7_believes_12 cv_X7_137 (c_X6_has_5 (by omega)) (Nat.le_of_ble_eq_true rfl) rfl rfl rfl rfl (Nat.le_of_ble_eq_true rfl) (Nat.le_of_ble_eq_true rfl) rfl (Nat.le_of_ble_eq_true rfl) ?_
    refine jr_ifne_b (tgt := 21) F dX7_believes_15 (by decide) (fun c15 => ?_) (fun c15 => ?_)
    · skip
      refine jr_aload_n F dX7_believes_21 rfl ?_
      refine jr_iload_n F dX7_believes_22 rfl ?_
      refine jr_iload_n F dX7_believes_23 rfl ?_
      refine jr_vE F dX7_believes_24 cv_X7_183 (c_belief c4 hS (by omega)) (Nat.le_of_ble_eq_true rfl) rfl rfl rfl rfl (Nat.le_of_ble_eq_true rfl) (Nat.le_of_ble_eq_true rfl) rfl (Nat.le_of_ble_eq_true rfl) (fun r24 w24 h24 => ?_)
      exact jr_iret F dX7_believes_27 (pE_of ⟨by unfold belsw; rw [if_pos ⟨c4, c15⟩]; exact h24.1, e17_sq h24.2⟩)
    · skip
      refine jr_bipush F dX7_believes_18 (by decide) ?_
      exact jr_iret F dX7_believes_20 (pE_of ⟨by unfold belsw; rw [if_neg (by omega)], sq_r w⟩)

noncomputable def telw (w : Wd) (r y : Int) : Int := if 0 ≤ r ∧ r < w 1 3 then (if -2000 ≤ y ∧ y ≤ 2000 then td w r else -9002) else -9001
noncomputable def telW (w : Wd) (r y : Int) : Wd := if (0 ≤ r ∧ r < w 1 3) ∧ -2000 ≤ y ∧ y ≤ 2000 then up w 3 r y else w
noncomputable def lasw (w : Wd) (r c k : Int) : Int := if 0 ≤ r ∧ r < w 1 3 then (if (0 ≤ c ∧ c ≤ 1) ∧ 0 ≤ k ∧ k ≤ 2 then (if k = 2 then lenw w r c else if k = 0 then leaw w r c else mosw w r c) else -102) else -101

set_option maxRecDepth 100000 in
set_option maxHeartbeats 4000000 in
theorem c_X7_lasts {B : Bs} {w : Wd} {r c k : Int} (hR : RI w) (hr : inR r) (hc : inR c) (hk : inR k) : Sp (GX B) 4 yX7_lasts cX7_lasts 4 (Option.some FieldType.int) [.ref (ga (GX B) (0)), iv (r), iv (c), iv (k)] w (pI w (lasw w r c k)) := by
  refine Sp.of (by decide) (Nat.le_of_ble_eq_true rfl) (fun X F => ?_)
  show Jw (GX B) X _ 0 [some (.ref (ga (GX B) (0))), some (iv (r)), some (iv (c)), some (iv (k))] [] w
  refine jr_aload_n F dX7_lasts_0 rfl ?_
  refine jr_getR (t := 1) F dX7_lasts_1 fg_X7_10 (Nat.le_of_ble_eq_true rfl) rfl rfl ?_
  refine jr_iload_n F dX7_lasts_4 rfl ?_
  refine jr_vI F dX7_lasts_5 cv_X7_85 (c_X3_has (by omega)) (Nat.le_of_ble_eq_true rfl) rfl rfl rfl rfl (Nat.le_of_ble_eq_true rfl) (Nat.le_of_ble_eq_true rfl) rfl (Nat.le_of_ble_eq_true rfl) ?_
  refine jr_ifne_b (tgt := 14) F dX7_lasts_8 (by decide) (fun c8 => ?_) (fun c8 => ?_)
  · skip
    refine jr_iload_n F dX7_lasts_14 rfl ?_
    refine jr_iconst F dX7_lasts_15 ?_
    refine jr_iconst F dX7_lasts_16 ?_
    refine jr_sI F dX7_lasts_17 cs_X7_65 (c_X7_within (by omega) (by omega) (by omega)) rfl (Nat.le_of_ble_eq_true rfl) (Nat.le_of_ble_eq_true rfl) rfl (Nat.le_of_ble_eq_true rfl) ?_
    refine jr_ifeq_b (tgt := 32) F dX7_lasts_20 (by decide) (fun c20 => ?_) (fun c20 => ?_)
    · skip
      refine jr_bipush F dX7_lasts_32 (by decide) ?_
      exact jr_iret F dX7_lasts_34 (pI_of (by unfold lasw; (repeat' split) <;> first | rfl | omega) rfl)
    · skip
      refine jr_iload_n F dX7_lasts_23 rfl ?_
      refine jr_iconst F dX7_lasts_24 ?_
      refine jr_iconst F dX7_lasts_25 ?_
      refine jr_sI F dX7_lasts_26 cs_X7_65 (c_X7_within (by omega) (by omega) (by omega)) rfl (Nat.le_of_ble_eq_true rfl) (Nat.le_of_ble_eq_true rfl) rfl (Nat.le_of_ble_eq_true rfl) ?_
      refine jr_ifne_b (tgt := 35) F dX7_lasts_29 (by decide) (fun c29 => ?_) (fun c29 => ?_)
      · skip
        have sm := (hR.2 r (by omega) (by omega)).1
        refine jr_iload_n F dX7_lasts_35 rfl ?_
        refine jr_iconst F dX7_lasts_36 ?_
        refine jr_icmp_ne (tgt := 50) F dX7_lasts_37 (by decide) (fun c37 => ?_) (fun c37 => ?_) (by omega) (by omega)
        · skip
          refine jr_iload_n F dX7_lasts_50 rfl ?_
          refine jr_if_ne (tgt := 66) F dX7_lasts_51 (by decide) (fun c51 => ?_) (fun c51 => ?_) (by omega)
          · skip
            refine jr_aload_n F dX7_lasts_66 rfl ?_
            refine jr_getR (t := 1) F dX7_lasts_67 fg_X7_10 (Nat.le_of_ble_eq_true rfl) rfl rfl ?_
            refine jr_iload_n F dX7_lasts_70 rfl ?_
            refine jr_iload_n F dX7_lasts_71 rfl ?_
            refine jr_vI F dX7_lasts_72 cv_X7_101 (c_X3_longest (by assumption) (by omega)) (Nat.le_of_ble_eq_true rfl) rfl rfl rfl rfl (Nat.le_of_ble_eq_true rfl) (Nat.le_of_ble_eq_true rfl) rfl (Nat.le_of_ble_eq_true rfl) ?_
            exact jr_iret F dX7_lasts_75 (pI_of (by unfold lasw; (repeat' split) <;> first | rfl | omega) rfl)
          · skip
            refine jr_aload_n F dX7_lasts_54 rfl ?_
            refine jr_getR (t := 1) F dX7_lasts_55 fg_X7_10 (Nat.le_of_ble_eq_true rfl) rfl rfl ?_
            refine jr_iload_n F dX7_lasts_58 rfl ?_
            refine jr_iload_n F dX7_lasts_59 rfl ?_
            refine jr_vI F dX7_lasts_60 cv_X7_98 (c_X3_shortest (by assumption) (by omega)) (Nat.le_of_ble_eq_true rfl) rfl rfl rfl rfl (Nat.le_of_ble_eq_true rfl) (Nat.le_of_ble_eq_true rfl) rfl (Nat.le_of_ble_eq_true rfl) ?_
            refine jr_goto (tgt := 75) F dX7_lasts_63 (by decide) ?_
            exact jr_iret F dX7_lasts_75 (pI_of (by unfold lasw; (repeat' split) <;> first | rfl | omega) rfl)
        · skip
          refine jr_aload_n F dX7_lasts_40 rfl ?_
          refine jr_getR (t := 1) F dX7_lasts_41 fg_X7_10 (Nat.le_of_ble_eq_true rfl) rfl rfl ?_
          refine jr_iload_n F dX7_lasts_44 rfl ?_
          refine jr_iload_n F dX7_lasts_45 rfl ?_
          refine jr_vI F dX7_lasts_46 cv_X7_95 (c_X3_lengths (by assumption) (by omega)) (Nat.le_of_ble_eq_true rfl) rfl rfl rfl rfl (Nat.le_of_ble_eq_true rfl) (Nat.le_of_ble_eq_true rfl) rfl (Nat.le_of_ble_eq_true rfl) ?_
          exact jr_iret F dX7_lasts_49 (pI_of (by unfold lasw; (repeat' split) <;> first | rfl | omega) rfl)
      · skip
        refine jr_bipush F dX7_lasts_32 (by decide) ?_
        exact jr_iret F dX7_lasts_34 (pI_of (by unfold lasw; (repeat' split) <;> first | rfl | omega) rfl)
  · skip
    refine jr_bipush F dX7_lasts_11 (by decide) ?_
    exact jr_iret F dX7_lasts_13 (pI_of (by unfold lasw; (repeat' split) <;> first | rfl | omega) rfl)

set_option maxRecDepth 100000 in
set_option maxHeartbeats 4000000 in
theorem c_X7_tell {B : Bs} {w : Wd} {r y : Int} (h3 : 0 ≤ w 1 3 ∧ w 1 3 ≤ 10) (hr : inR r) (hy : inR y) : Sp (GX B) 3 yX7_tell cX7_tell 3 (Option.some FieldType.int) [.ref (ga (GX B) (0)), iv (r), iv (y)] w (pI (telW w r y) (telw w r y)) := by
  refine Sp.of (by decide) (Nat.le_of_ble_eq_true rfl) (fun X F => ?_)
  show Jw (GX B) X _ 0 [some (.ref (ga (GX B) (0))), some (iv (r)), some (iv (y))] [] w
  refine jr_aload_n F dX7_tell_0 rfl ?_
  refine jr_getR (t := 1) F dX7_tell_1 fg_X7_10 (Nat.le_of_ble_eq_true rfl) rfl rfl ?_
  refine jr_iload_n F dX7_tell_4 rfl ?_
  refine jr_vI F dX7_tell_5 cv_X7_85 (c_X3_has (by omega)) (Nat.le_of_ble_eq_true rfl) rfl rfl rfl rfl (Nat.le_of_ble_eq_true rfl) (Nat.le_of_ble_eq_true rfl) rfl (Nat.le_of_ble_eq_true rfl) ?_
  refine jr_ifne_b (tgt := 15) F dX7_tell_8 (by decide) (fun c8 => ?_) (fun c8 => ?_)
  · skip
    refine jr_iload_n F dX7_tell_15 rfl ?_
    refine jr_sI F dX7_tell_16 cs_X7_123 (c_X7_isYear (by omega)) rfl (Nat.le_of_ble_eq_true rfl) (Nat.le_of_ble_eq_true rfl) rfl (Nat.le_of_ble_eq_true rfl) ?_
    refine jr_ifeq_b (tgt := 34) F dX7_tell_19 (by decide) (fun c19 => ?_) (fun c19 => ?_)
    · skip
      refine jr_sipush F dX7_tell_34 (by decide) ?_
      exact jr_iret F dX7_tell_37 (pI_of (by unfold telw; (repeat' split) <;> first | rfl | omega) (by first | (rw [e28]; unfold telW; rw [if_pos ⟨c8, c19⟩]; done) | (unfold telW; rw [if_neg (fun q => c19 q.2)])))
    · skip
      refine jr_aload_n F dX7_tell_22 rfl ?_
      refine jr_getR (t := 1) F dX7_tell_23 fg_X7_10 (Nat.le_of_ble_eq_true rfl) rfl rfl ?_
      refine jr_iload_n F dX7_tell_26 rfl ?_
      refine jr_iload_n F dX7_tell_27 rfl ?_
      refine jr_vIx F dX7_tell_28 cv_X7_224 (c_X3_retell (by omega) (by omega) (by omega)) (Nat.le_of_ble_eq_true rfl) rfl rfl rfl rfl (Nat.le_of_ble_eq_true rfl) (Nat.le_of_ble_eq_true rfl) rfl (Nat.le_of_ble_eq_true rfl) (fun w28 e28 => ?_)
      refine jr_goto (tgt := 37) F dX7_tell_31 (by decide) ?_
      exact jr_iret F dX7_tell_37 (pI_of (by unfold telw; (repeat' split) <;> first | rfl | omega) (by first | (rw [e28]; unfold telW; rw [if_pos ⟨c8, c19⟩]; done) | (unfold telW; rw [if_neg (fun q => c19 q.2)])))
  · skip
    refine jr_sipush F dX7_tell_11 (by decide) ?_
    exact jr_iret F dX7_tell_14 (pI_of (by unfold telw; rw [if_neg c8]) (by unfold telW; rw [if_neg (fun q => c8 q.1)]))

