noncomputable def endw (w : Wd) (r s : Int) : Int := @ite _ (w 20 17 = 1 ∧ knw w r (w 20 13)) (Classical.propDecidable _) (if s = 0 then w 30 r else w 31 r) (-9999)
theorem endw_y {w : Wd} {r s : Int} (h : w 20 17 = 1) (k : knw w r (w 20 13)) : endw w r s = if s = 0 then w 30 r else w 31 r := by unfold endw; rw [if_pos ⟨h, k⟩]
theorem endw_n {w : Wd} {r s : Int} (h : ¬ (w 20 17 = 1 ∧ knw w r (w 20 13))) : endw w r s = -9999 := by unfold endw; rw [if_neg h]
noncomputable def opnw (w : Wd) : Nat → Int
  | 0 => 0
  | n + 1 => opnw w n + (endw w (n : Nat) 1 - endw w (n : Nat) 0)
theorem opnw_s {w : Wd} {i : Int} (h : 0 ≤ i) : opnw w (i + 1).toNat = opnw w i.toNat + (endw w i 1 - endw w i 0) := by rw [show (i + 1).toNat = i.toNat + 1 by omega, opnw, Int.toNat_of_nonneg h]
def unl (w : Wd) (r : Int) : Prop := ¬ w 32 r = endw w r 0 ∨ ¬ w 33 r = endw w r 1
noncomputable def fuk (w : Wd) : Nat → Int → Int
  | 0, _ => -1
  | f + 1, i => @ite _ (unl w i) (Classical.propDecidable _) i (fuk w f (i + 1))
def kpR (w u : Wd) (n : Int) : Prop := (∀ k, k ≠ 32 → k ≠ 33 → u k = w k) ∧ (∀ r : Int, 0 ≤ r → r < n → u 32 r = endw w r 0 ∧ u 33 r = endw w r 1)
theorem cell_end {w u : Wd} (h1 : u 1 = w 1) (h2 : u 2 = w 2) (h20 : u 20 = w 20) (h30 : u 30 = w 30) (h31 : u 31 = w 31) : endw u = endw w := by funext r s; unfold endw knw; rw [h1, cell_fa h2, h20, h30, h31]
theorem kpR_s {w u x : Wd} {n : Int} (h : kpR w u n) {a b : Int} (hx : x = up (up u 32 n a) 33 n b) (ha : a = endw w n 0) (hb : b = endw w n 1) : kpR w x (n + 1) := by
  subst hx
  refine ⟨fun k a b => by rw [up_cell b, up_cell a]; exact h.1 k a b, fun r r0 r1 => ?_⟩
  by_cases e : r = n
  · subst e
    exact ⟨by rw [up_cell (by decide), up_self, ha], by rw [up_self, hb]⟩
  · have z := h.2 r r0 (by omega)
    exact ⟨by rw [up_cell (by decide), up_ne (by omega)]; exact z.1, by rw [up_ne (by omega), up_cell (by decide)]; exact z.2⟩
theorem end_R {B : Bs} {w : Wd} (hO : okW (GX B) w) {r s : Int} (r0 : 0 ≤ r) (r1 : r < 10) : inR (endw w r s) := by
  have a := rd_R (k := 30) (n := 10) hO rfl r
  have b := rd_R (k := 31) (n := 10) hO rfl r
  rw [rd_in r0 (by omega)] at a b
  unfold endw
  split
  · split <;> assumption
  · omega

set_option maxRecDepth 100000 in
set_option maxHeartbeats 4000000 in
theorem c_X1_end_20 {B : Bs} {w : Wd} {r s : Int} (r0 : 0 ≤ r ∧ r < 10) (hs : 0 ≤ s ∧ s ≤ 1) (h3 : 0 ≤ w 1 3 ∧ w 1 3 ≤ 10) (h13 : 0 ≤ w 20 13 ∧ w 20 13 ≤ 9) : Sp (GX B) 3 yX1_end cX1_end 3 (Option.some FieldType.int) [.ref (ga (GX B) (20)), iv (r), iv (s)] w (pI w (endw w r s)) := by
  refine Sp.of (by decide) (Nat.le_of_ble_eq_true rfl) (fun X F => ?_)
  show Jw (GX B) X _ 0 [some (.ref (ga (GX B) (20))), some (iv (r)), some (iv (s))] [] w
  refine jr_aload_n F dX1_end_0 rfl ?_
  refine jr_getZx F (w 20 17) dX1_end_1 fg_X1_70 (Nat.le_of_ble_eq_true rfl) rfl rfl rfl (fun q1 => ?_)
  refine jr_if_eq (tgt := 22) F dX1_end_4 (by decide) (fun c4 => ?_) (fun c4 => ?_) (by omega)
  · skip
    refine jr_sipush F dX1_end_22 (by decide) ?_
    exact jr_iret F dX1_end_25 (pI_of (by rw [endw_n (fun q => by omega)]) rfl)
  · skip
    refine jr_aload_n F dX1_end_7 rfl ?_
    refine jr_getR (t := 1) F dX1_end_8 fg_X1_9 (Nat.le_of_ble_eq_true rfl) rfl rfl ?_
    refine jr_iload_n F dX1_end_11 rfl ?_
    refine jr_aload_n F dX1_end_12 rfl ?_
    refine jr_getIx F (w 20 13) dX1_end_13 fg_X1_57 (Nat.le_of_ble_eq_true rfl) rfl rfl rfl (fun q13 => ?_)
    refine jr_vI F dX1_end_16 cv_X1_88 (c_X3_isKnown (by omega) (by omega) (by omega)) (Nat.le_of_ble_eq_true rfl) rfl rfl rfl rfl (Nat.le_of_ble_eq_true rfl) (Nat.le_of_ble_eq_true rfl) rfl (Nat.le_of_ble_eq_true rfl) ?_
    refine jr_ifne_b (tgt := 26) F dX1_end_19 (by decide) (fun c19 => ?_) (fun c19 => ?_)
    · skip
      refine jr_iload_n F dX1_end_26 rfl ?_
      refine jr_if_ne (tgt := 37) F dX1_end_27 (by decide) (fun c27 => ?_) (fun c27 => ?_) (by omega)
      · skip
        refine jr_aload_n F dX1_end_37 rfl ?_
        refine jr_getR (t := 31) F dX1_end_38 fg_X1_48 (Nat.le_of_ble_eq_true rfl) rfl rfl ?_
        refine jr_iload_n F dX1_end_41 rfl ?_
        refine jr_nI F dX1_end_42 cn_X1_153 (c_at_in (Nat.le_of_ble_eq_true rfl) rfl (by omega) (by omega) (by omega)) rfl (Nat.le_of_ble_eq_true rfl) (Nat.le_of_ble_eq_true rfl) rfl (Nat.le_of_ble_eq_true rfl) ?_
        exact jr_iret F dX1_end_45 (pI_of (by rw [endw_y (by omega) c19, if_neg (by omega)]) rfl)
      · skip
        refine jr_aload_n F dX1_end_30 rfl ?_
        refine jr_getR (t := 30) F dX1_end_31 fg_X1_45 (Nat.le_of_ble_eq_true rfl) rfl rfl ?_
        refine jr_goto (tgt := 41) F dX1_end_34 (by decide) ?_
        refine jr_iload_n F dX1_end_41 rfl ?_
        refine jr_nI F dX1_end_42 cn_X1_153 (c_at_in (Nat.le_of_ble_eq_true rfl) rfl (by omega) (by omega) (by omega)) rfl (Nat.le_of_ble_eq_true rfl) (Nat.le_of_ble_eq_true rfl) rfl (Nat.le_of_ble_eq_true rfl) ?_
        exact jr_iret F dX1_end_45 (pI_of (by rw [endw_y (by omega) c19, if_pos (by omega)]) rfl)
    · skip
      refine jr_sipush F dX1_end_22 (by decide) ?_
      exact jr_iret F dX1_end_25 (pI_of (by rw [endw_n (fun q => c19 q.2)]) rfl)

set_option maxRecDepth 100000 in
set_option maxHeartbeats 4000000 in
theorem c_X1_openness_20 {B : Bs} {w : Wd}  (h3 : 0 ≤ w 1 3 ∧ w 1 3 ≤ 10) (h13 : 0 ≤ w 20 13 ∧ w 20 13 ≤ 9) : Sp (GX B) 4 yX1_openness cX1_openness 3 (Option.some FieldType.int) [.ref (ga (GX B) (20))] w (pI w (opnw w (w 1 3).toNat)) := by
  refine Sp.of (by decide) (Nat.le_of_ble_eq_true rfl) (fun X F => ?_)
  show Jw (GX B) X _ 0 [some (.ref (ga (GX B) (20)))] [] w
  refine jr_iconst F dX1_openness_0 ?_
  refine jr_istore_n F dX1_openness_1 (Nat.le_of_ble_eq_true rfl) rfl ?_
  refine jr_iconst F dX1_openness_2 ?_
  refine jr_istore_n F dX1_openness_3 (Nat.le_of_ble_eq_true rfl) rfl ?_
  have L4 : ∀ (fuel : Nat) (i : Int) (z : Int), (w 1 3 - i).toNat < fuel → (0 ≤ i) → (i ≤ w 1 3) → (z = opnw w i.toNat) → Jw (GX B) X (pI w (opnw w (w 1 3).toNat)) 4 [some (.ref (ga (GX B) 20)), some (iv z), some (iv i)] [] w := by
    intro fuel
    induction fuel with
    | zero => intro i z hfuel; exact absurd hfuel (Nat.not_lt_zero _)
    | succ fuel ih4 =>
        intro i z hfuel h0 h1 hz
        refine jr_iload_n F dX1_openness_4 rfl ?_
        refine jr_aload_n F dX1_openness_5 rfl ?_
        refine jr_getR (t := 1) F dX1_openness_6 fg_X1_9 (Nat.le_of_ble_eq_true rfl) rfl rfl ?_
        refine jr_vI F dX1_openness_9 cv_X1_74 (c_X3_size) (Nat.le_of_ble_eq_true rfl) rfl rfl rfl rfl (Nat.le_of_ble_eq_true rfl) (Nat.le_of_ble_eq_true rfl) rfl (Nat.le_of_ble_eq_true rfl) ?_
        refine jr_icmp_ge (tgt := 37) F dX1_openness_12 (by decide) (fun c12 => ?_) (fun c12 => ?_) (by omega) (by omega)
        · skip
          refine jr_iload_n F dX1_openness_37 rfl ?_
          exact jr_iret F dX1_openness_38 (pI_of (by rw [hz, show i = w 1 3 by omega]) rfl)
        · skip
          refine jr_iload_n F dX1_openness_15 rfl ?_
          refine jr_aload_n F dX1_openness_16 rfl ?_
          refine jr_iload_n F dX1_openness_17 rfl ?_
          refine jr_iconst F dX1_openness_18 ?_
          refine jr_vI F dX1_openness_19 cv_X1_182 (c_X1_end_20 (by omega) (by omega) (by omega) (by omega)) (Nat.le_of_ble_eq_true rfl) rfl rfl rfl rfl (Nat.le_of_ble_eq_true rfl) (Nat.le_of_ble_eq_true rfl) rfl (Nat.le_of_ble_eq_true rfl) ?_
          refine jr_aload_n F dX1_openness_22 rfl ?_
          refine jr_iload_n F dX1_openness_23 rfl ?_
          refine jr_iconst F dX1_openness_24 ?_
          refine jr_vI F dX1_openness_25 cv_X1_182 (c_X1_end_20 (by omega) (by omega) (by omega) (by omega)) (Nat.le_of_ble_eq_true rfl) rfl rfl rfl rfl (Nat.le_of_ble_eq_true rfl) (Nat.le_of_ble_eq_true rfl) rfl (Nat.le_of_ble_eq_true rfl) ?_
          refine jr_isub F dX1_openness_28 ?_
          refine jr_iadd F dX1_openness_29 ?_
          refine jr_istore_n F dX1_openness_30 (Nat.le_of_ble_eq_true rfl) rfl ?_
          refine jr_iinc F dX1_openness_31 rfl (Nat.le_of_ble_eq_true rfl) rfl ?_
          refine jr_goto (tgt := 4) F dX1_openness_34 (by decide) ?_
          exact jr_sub (ih4 (i + 1) _ (by omega) (by omega) (by omega) (by rw [opnw_s h0, hz])) ⟨rfl, rfl, rfl, trivial⟩
  exact jr_sub (L4 _ 0 0 (Nat.lt_succ_self _) (by omega) (by omega) rfl) ⟨rfl, rfl, rfl, trivial⟩

set_option maxRecDepth 100000 in
set_option maxHeartbeats 4000000 in
theorem c_X1_keepSpans_20 {B : Bs} {w : Wd}  (h3 : 0 ≤ w 1 3 ∧ w 1 3 ≤ 10) (h13 : 0 ≤ w 20 13 ∧ w 20 13 ≤ 9) : Sp (GX B) 4 yX1_keepSpans cX1_keepSpans 2 (Option.none : Option FieldType) [.ref (ga (GX B) (20))] w (pU (fun u => kpR w u (w 1 3))) := by
  refine Sp.of (by decide) (Nat.le_of_ble_eq_true rfl) (fun X F => ?_)
  show Jw (GX B) X _ 0 [some (.ref (ga (GX B) (20)))] [] w
  refine jr_iconst F dX1_keepSpans_0 ?_
  refine jr_istore_n F dX1_keepSpans_1 (Nat.le_of_ble_eq_true rfl) rfl ?_
  have L2 : ∀ (fuel : Nat) (u : Wd) (i : Int), (w 1 3 - i).toNat < fuel → (0 ≤ i) → (i ≤ w 1 3) → (kpR w u i) → Jw (GX B) X (pU (fun u => kpR w u (w 1 3))) 2 [some (.ref (ga (GX B) 20)), some (iv i)] [] u := by
    intro fuel
    induction fuel with
    | zero => intro u i hfuel; exact absurd hfuel (Nat.not_lt_zero _)
    | succ fuel ih2 =>
        intro u i hfuel h0 h1 hu
        refine jr_ok (fun hO => ?_)
        have u1 : u 1 = w 1 := hu.1 1 (by decide) (by decide)
        have u2 : u 2 = w 2 := hu.1 2 (by decide) (by decide)
        have u20 : u 20 = w 20 := hu.1 20 (by decide) (by decide)
        have u30 : u 30 = w 30 := hu.1 30 (by decide) (by decide)
        have u31 : u 31 = w 31 := hu.1 31 (by decide) (by decide)
        have ue := cell_end u1 u2 u20 u30 u31
        refine jr_iload_n F dX1_keepSpans_2 rfl ?_
        refine jr_aload_n F dX1_keepSpans_3 rfl ?_
        refine jr_getR (t := 1) F dX1_keepSpans_4 fg_X1_9 (Nat.le_of_ble_eq_true rfl) rfl rfl ?_
        refine jr_vI F dX1_keepSpans_7 cv_X1_74 (c_X3_size) (Nat.le_of_ble_eq_true rfl) rfl rfl rfl rfl (Nat.le_of_ble_eq_true rfl) (Nat.le_of_ble_eq_true rfl) rfl (Nat.le_of_ble_eq_true rfl) ?_
        refine jr_ti (b := (w 1 3)) (congrFun u1 3) ?_
        refine jr_icmp_ge (tgt := 47) F dX1_keepSpans_10 (by decide) (fun c10 => ?_) (fun c10 => ?_) (by omega) (by omega)
        · skip
          obtain rfl : i = w 1 3 := by omega
          exact jr_vret F dX1_keepSpans_47 ⟨rfl, hu⟩
        · skip
          refine jr_aload_n F dX1_keepSpans_13 rfl ?_
          refine jr_getR (t := 32) F dX1_keepSpans_14 fg_X1_51 (Nat.le_of_ble_eq_true rfl) rfl rfl ?_
          refine jr_iload_n F dX1_keepSpans_17 rfl ?_
          refine jr_aload_n F dX1_keepSpans_18 rfl ?_
          refine jr_iload_n F dX1_keepSpans_19 rfl ?_
          refine jr_iconst F dX1_keepSpans_20 ?_
          refine jr_vI F dX1_keepSpans_21 cv_X1_182 (c_X1_end_20 (by omega) (by omega) (by rw [u1]; omega) (by rw [u20]; omega)) (Nat.le_of_ble_eq_true rfl) rfl rfl rfl rfl (Nat.le_of_ble_eq_true rfl) (Nat.le_of_ble_eq_true rfl) rfl (Nat.le_of_ble_eq_true rfl) ?_
          refine jr_ti (b := (endw w i 0)) (by rw [ue]) ?_
          have k0 : inR (endw w i 0) := by rw [← ue]; exact end_R hO (by omega) (by omega)
          refine jr_nVx F dX1_keepSpans_24 cn_X1_114 (c_put_in (Nat.le_of_ble_eq_true rfl) rfl (by omega) (by omega) (by omega) (by omega)) rfl (Nat.le_of_ble_eq_true rfl) (Nat.le_of_ble_eq_true rfl) rfl (Nat.le_of_ble_eq_true rfl) (fun w24 e24 => ?_)
          refine jr_aload_n F dX1_keepSpans_27 rfl ?_
          refine jr_getR (t := 33) F dX1_keepSpans_28 fg_X1_54 (Nat.le_of_ble_eq_true rfl) rfl rfl ?_
          refine jr_iload_n F dX1_keepSpans_31 rfl ?_
          refine jr_aload_n F dX1_keepSpans_32 rfl ?_
          refine jr_iload_n F dX1_keepSpans_33 rfl ?_
          refine jr_iconst F dX1_keepSpans_34 ?_
          refine jr_vI F dX1_keepSpans_35 cv_X1_182 (c_X1_end_20 (by omega) (by omega) (by subst e24; rw [up_cell (by decide), u1]; omega) (by subst e24; rw [up_cell (by decide), u20]; omega)) (Nat.le_of_ble_eq_true rfl) rfl rfl rfl rfl (Nat.le_of_ble_eq_true rfl) (Nat.le_of_ble_eq_true rfl) rfl (Nat.le_of_ble_eq_true rfl) ?_
          refine jr_ti (b := (endw w i 1)) (by rw [cell_end (u := w24) (w := u) (by subst e24; rw [up_cell (by decide)]) (by subst e24; rw [up_cell (by decide)]) (by subst e24; rw [up_cell (by decide)]) (by subst e24; rw [up_cell (by decide)]) (by subst e24; rw [up_cell (by decide)]), ue]) ?_
          have k1 : inR (endw w i 1) := by rw [← ue]; exact end_R hO (by omega) (by omega)
          refine jr_nVx F dX1_keepSpans_38 cn_X1_114 (c_put_in (Nat.le_of_ble_eq_true rfl) rfl (by omega) (by omega) (by omega) (by omega)) rfl (Nat.le_of_ble_eq_true rfl) (Nat.le_of_ble_eq_true rfl) rfl (Nat.le_of_ble_eq_true rfl) (fun w38 e38 => ?_)
          refine jr_iinc F dX1_keepSpans_41 rfl (Nat.le_of_ble_eq_true rfl) rfl ?_
          refine jr_goto (tgt := 2) F dX1_keepSpans_44 (by decide) ?_
          exact jr_sub (ih2 _ (i + 1) (by omega) (by omega) (by omega) (kpR_s hu (by subst e38; subst e24; rfl) rfl rfl)) ⟨rfl, rfl, trivial⟩
  exact jr_sub (L2 _ _ 0 (Nat.lt_succ_self _) (by omega) (by omega) ⟨fun _ _ _ => rfl, fun r a b => by omega⟩) ⟨rfl, rfl, trivial⟩

set_option maxRecDepth 100000 in
set_option maxHeartbeats 4000000 in
theorem c_X1_firstUnlikeKept_20 {B : Bs} {w : Wd}  (h3 : 0 ≤ w 1 3 ∧ w 1 3 ≤ 10) (h13 : 0 ≤ w 20 13 ∧ w 20 13 ≤ 9) : Sp (GX B) 4 yX1_firstUnlikeKept cX1_firstUnlikeKept 2 (Option.some FieldType.int) [.ref (ga (GX B) (20))] w (pI w (fuk w (w 1 3).toNat 0)) := by
  refine Sp.of (by decide) (Nat.le_of_ble_eq_true rfl) (fun X F => ?_)
  refine jr_ok (fun hO => ?_)
  show Jw (GX B) X _ 0 [some (.ref (ga (GX B) (20)))] [] w
  refine jr_iconst F dX1_firstUnlikeKept_0 ?_
  refine jr_istore_n F dX1_firstUnlikeKept_1 (Nat.le_of_ble_eq_true rfl) rfl ?_
  have L2 : ∀ (fuel : Nat) (i : Int), (w 1 3 - i).toNat < fuel → (0 ≤ i) → (i ≤ w 1 3) → (fuk w (w 1 3).toNat 0 = fuk w (w 1 3 - i).toNat i) → Jw (GX B) X (pI w (fuk w (w 1 3).toNat 0)) 2 [some (.ref (ga (GX B) 20)), some (iv i)] [] w := by
    intro fuel
    induction fuel with
    | zero => intro i hfuel; exact absurd hfuel (Nat.not_lt_zero _)
    | succ fuel ih2 =>
        intro i hfuel h0 h1 hz
        refine jr_iload_n F dX1_firstUnlikeKept_2 rfl ?_
        refine jr_aload_n F dX1_firstUnlikeKept_3 rfl ?_
        refine jr_getR (t := 1) F dX1_firstUnlikeKept_4 fg_X1_9 (Nat.le_of_ble_eq_true rfl) rfl rfl ?_
        refine jr_vI F dX1_firstUnlikeKept_7 cv_X1_74 (c_X3_size) (Nat.le_of_ble_eq_true rfl) rfl rfl rfl rfl (Nat.le_of_ble_eq_true rfl) (Nat.le_of_ble_eq_true rfl) rfl (Nat.le_of_ble_eq_true rfl) ?_
        refine jr_icmp_ge (tgt := 55) F dX1_firstUnlikeKept_10 (by decide) (fun c10 => ?_) (fun c10 => ?_) (by omega) (by omega)
        · skip
          refine jr_iconst F dX1_firstUnlikeKept_55 ?_
          exact jr_iret F dX1_firstUnlikeKept_56 (pI_of (by rw [hz, show (w 1 3 - i).toNat = 0 by omega, fuk]) rfl)
        · skip
          have k0 : inR (endw w i 0) := end_R hO (by omega) (by omega)
          have k1 : inR (endw w i 1) := end_R hO (by omega) (by omega)
          have k2 := rd_R (k := 32) (n := 10) hO rfl i
          have k3 := rd_R (k := 33) (n := 10) hO rfl i
          rw [rd_in (by omega) (by omega)] at k2 k3
          refine jr_aload_n F dX1_firstUnlikeKept_13 rfl ?_
          refine jr_getR (t := 32) F dX1_firstUnlikeKept_14 fg_X1_51 (Nat.le_of_ble_eq_true rfl) rfl rfl ?_
          refine jr_iload_n F dX1_firstUnlikeKept_17 rfl ?_
          refine jr_nI F dX1_firstUnlikeKept_18 cn_X1_153 (c_at_in (Nat.le_of_ble_eq_true rfl) rfl (by omega) (by omega) (by omega)) rfl (Nat.le_of_ble_eq_true rfl) (Nat.le_of_ble_eq_true rfl) rfl (Nat.le_of_ble_eq_true rfl) ?_
          refine jr_aload_n F dX1_firstUnlikeKept_21 rfl ?_
          refine jr_iload_n F dX1_firstUnlikeKept_22 rfl ?_
          refine jr_iconst F dX1_firstUnlikeKept_23 ?_
          refine jr_vI F dX1_firstUnlikeKept_24 cv_X1_182 (c_X1_end_20 (by omega) (by omega) (by omega) (by omega)) (Nat.le_of_ble_eq_true rfl) rfl rfl rfl rfl (Nat.le_of_ble_eq_true rfl) (Nat.le_of_ble_eq_true rfl) rfl (Nat.le_of_ble_eq_true rfl) ?_
          refine jr_icmp_ne (tgt := 47) F dX1_firstUnlikeKept_27 (by decide) (fun c27 => ?_) (fun c27 => ?_) (by omega) (by omega)
          · skip
            refine jr_iload_n F dX1_firstUnlikeKept_47 rfl ?_
            exact jr_iret F dX1_firstUnlikeKept_48 (pI_of (by rw [hz, show (w 1 3 - i).toNat = (w 1 3 - (i + 1)).toNat + 1 by omega, fuk, if_pos (by unfold unl; omega)]) rfl)
          · skip
            refine jr_aload_n F dX1_firstUnlikeKept_30 rfl ?_
            refine jr_getR (t := 33) F dX1_firstUnlikeKept_31 fg_X1_54 (Nat.le_of_ble_eq_true rfl) rfl rfl ?_
            refine jr_iload_n F dX1_firstUnlikeKept_34 rfl ?_
            refine jr_nI F dX1_firstUnlikeKept_35 cn_X1_153 (c_at_in (Nat.le_of_ble_eq_true rfl) rfl (by omega) (by omega) (by omega)) rfl (Nat.le_of_ble_eq_true rfl) (Nat.le_of_ble_eq_true rfl) rfl (Nat.le_of_ble_eq_true rfl) ?_
            refine jr_aload_n F dX1_firstUnlikeKept_38 rfl ?_
            refine jr_iload_n F dX1_firstUnlikeKept_39 rfl ?_
            refine jr_iconst F dX1_firstUnlikeKept_40 ?_
            refine jr_vI F dX1_firstUnlikeKept_41 cv_X1_182 (c_X1_end_20 (by omega) (by omega) (by omega) (by omega)) (Nat.le_of_ble_eq_true rfl) rfl rfl rfl rfl (Nat.le_of_ble_eq_true rfl) (Nat.le_of_ble_eq_true rfl) rfl (Nat.le_of_ble_eq_true rfl) ?_
            refine jr_icmp_eq (tgt := 49) F dX1_firstUnlikeKept_44 (by decide) (fun c44 => ?_) (fun c44 => ?_) (by omega) (by omega)
            · skip
              refine jr_iinc F dX1_firstUnlikeKept_49 rfl (Nat.le_of_ble_eq_true rfl) rfl ?_
              refine jr_goto (tgt := 2) F dX1_firstUnlikeKept_52 (by decide) ?_
              exact jr_sub (ih2 (i + 1) (by omega) (by omega) (by omega) (by rw [hz, show (w 1 3 - i).toNat = (w 1 3 - (i + 1)).toNat + 1 by omega, fuk, if_neg (fun q => by unfold unl at q; omega)])) ⟨rfl, rfl, trivial⟩
            · skip
              refine jr_iload_n F dX1_firstUnlikeKept_47 rfl ?_
              exact jr_iret F dX1_firstUnlikeKept_48 (pI_of (by rw [hz, show (w 1 3 - i).toNat = (w 1 3 - (i + 1)).toNat + 1 by omega, fuk, if_pos (by unfold unl; omega)]) rfl)
  exact jr_sub (L2 _ 0 (Nat.lt_succ_self _) (by omega) (by omega) (by rw [Int.sub_zero])) ⟨rfl, rfl, trivial⟩

/-- alike but for what calls work with -/
def sq (w u : Wd) : Prop := ∀ k, k ≠ 17 → k < 20 → u k = w k
theorem sq_r (w : Wd) : sq w w := fun _ _ _ => rfl
theorem sq_t {a b c : Wd} (h : sq a b) (g : sq b c) : sq a c := fun k x y => (g k x y).trans (h k x y)
theorem e17_sq {w u : Wd} (h : e17 w u) : sq w u := fun k x _ => h k x
theorem llF_sq {w u : Wd} (h : llF w u) : sq w u := fun k _ y => h.1 k (by omega) (by omega) (by omega) (by omega) (by omega) (by omega)
theorem fdF_sq {w u : Wd} (h : fdF w u) : sq w u := fun k _ y => h.1 k (by omega) (by omega) (by omega) (by omega) (by omega) (by omega) (by omega)
noncomputable def cnS (w : Wd) (s : Int) : Int := bsI (fun r => cntw w s r = 1) (w 1 3)
noncomputable def blB (w : Wd) (s e : Int) : Int := bsI (blS w s e) (w 5 3)
theorem b_sh0 {k : Int} (hk : 0 ≤ k ∧ k ≤ 31) : Int32.ofInt 0 <<< (Int32.ofInt k &&& 31) = Int32.ofInt 0 := by rw [b_shl (by omega) hk (by simp)]; simp
theorem cell_RI {w u : Wd} (h1 : u 1 = w 1) (h2 : u 2 = w 2) (h : RI w) : RI u := by unfold RI; rw [h1, cell_fa h2]; exact ⟨h.1, fun r a b => ⟨cell_smR h2 (h.2 r a b).1, (h.2 r a b).2⟩⟩
theorem cell_INJ {w u : Wd} (h1 : u 1 = w 1) (h2 : u 2 = w 2) (h : INJ w) : INJ u := by unfold INJ; rw [h1, cell_fa h2]; exact h
theorem cell_M3 {w u : Wd} (h1 : u 1 = w 1) (h2 : u 2 = w 2) (h : M3 w) : M3 u := by unfold M3; rw [h1, cell_fa h2]; exact h
theorem cell_bnd {w u : Wd} (h1 : u 1 = w 1) (h2 : u 2 = w 2) : bnd u = bnd w := by funext e r; unfold bnd knw; rw [h1, cell_fa h2]
theorem cell_shw {w u : Wd} (h2 : u 2 = w 2) : shw u = shw w := by funext c r; unfold shw shl; rw [cell_fa h2, cell_lea h2, cell_lap h2]
theorem cell_low {w u : Wd} (h2 : u 2 = w 2) : low u = low w := by funext c r; unfold low lol; rw [cell_fa h2, cell_mos h2, cell_lap h2]
theorem cell_isF {w u : Wd} (h1 : u 1 = w 1) (h2 : u 2 = w 2) : isF u = isF w := by funext e c r; unfold isF frk shl lol; rw [h1, cell_bnd h1 h2, cell_fa h2, cell_lea h2, cell_mos h2, cell_lap h2]
theorem cell_CL {w u : Wd} (h1 : u 1 = w 1) (h2 : u 2 = w 2) : CL u = CL w := by funext e c r v; unfold CL; rw [h1, cell_bnd h1 h2, cell_shw h2, cell_low h2, cell_fa h2]
theorem cell_FKS {w u x : Wd} (h1 : u 1 = w 1) (h2 : u 2 = w 2) : FKS u x = FKS w x := by funext e c r; unfold FKS; rw [cell_isF h1 h2, cell_shw h2, cell_low h2]
theorem cell_llS {w u x : Wd} (h1 : u 1 = w 1) (h2 : u 2 = w 2) : llS u x = llS w x := by funext e c r; unfold llS; rw [h1, cell_CL h1 h2, cell_FKS h1 h2]
theorem cell_Lad {w u : Wd} (h1 : u 1 = w 1) (h2 : u 2 = w 2) (h5 : u 5 = w 5) (h6 : u 6 = w 6) (h7 : u 7 = w 7) (h9 : u 9 = w 9) : Lad u = Lad w := by
  funext e c b wi v
  unfold Lad CW skyC
  rw [cell_CT h6 h7, cell_CL h1 h2, h1, h5, cell_wis h9, cell_isF h1 h2, cell_shw h2, cell_low h2, cell_fa h2, cell_tfa h6, cell_beg h6 h7]
theorem sq_Lad {w u : Wd} (h : sq w u) : Lad u = Lad w := cell_Lad (h 1 (by decide) (by decide)) (h 2 (by decide) (by decide)) (h 5 (by decide) (by decide)) (h 6 (by decide) (by decide)) (h 7 (by decide) (by decide)) (h 9 (by decide) (by decide))

