theorem sq_c {w u : Wd} (h : sq w u) {k : Nat} (a : k ≠ 17 := by decide) (b : k < 20 := by decide) : u k = w k := h k a b
theorem sq_fa {w u : Wd} (h : sq w u) : fa u = fa w := cell_fa (h 2 (by decide) (by decide))
theorem sq_tfa {w u : Wd} (h : sq w u) : tfa u = tfa w := cell_tfa (h 6 (by decide) (by decide))
theorem sq_knw {w u : Wd} (h : sq w u) : knw u = knw w := by funext r e; unfold knw; rw [sq_fa h, h 1 (by decide) (by decide)]
theorem sq_rd {w u : Wd} (h : sq w u) {k : Nat} (a : k ≠ 17) (b : k < 20) (n : Int) : rd u k n = rd w k n := by funext i; exact rd_c (h k a b) n i
theorem sq_say {w u : Wd} (h : sq w u) : sayw u = sayw w := by
  funext s o act d
  unfold sayw say0 say1
  rw [sq_rd h (by decide) (by decide), sq_rd h (by decide) (by decide), sq_rd h (by decide) (by decide), sq_rd h (by decide) (by decide), h 11 (by decide) (by decide), h 14 (by decide) (by decide)]
theorem sq_cnt {w u : Wd} (h : sq w u) : cntw u = cntw w := by funext s r; unfold cntw; rw [sq_say h, sq_fa h]
theorem sq_blf {w u : Wd} (h : sq w u) : blfw u = blfw w := by funext s r; unfold blfw; rw [sq_say h, sq_fa h, sq_tfa h]
theorem sq_blS {w u : Wd} (h : sq w u) : blS u = blS w := by funext s e t; unfold blS; rw [sq_tfa h, sq_knw h, sq_blf h]
theorem sq_blB {w u : Wd} (h : sq w u) : blB u = blB w := by funext s e; unfold blB; rw [sq_blS h, h 5 (by decide) (by decide)]
theorem sq_cnS {w u : Wd} (h : sq w u) : cnS u = cnS w := by funext s; unfold cnS; rw [sq_cnt h, h 1 (by decide) (by decide)]
theorem sq_SOK {w u : Wd} (h : sq w u) (s : SOK w) : SOK u := by
  unfold SOK
  rw [sq_rd h (by decide) (by decide), sq_rd h (by decide) (by decide), sq_rd h (by decide) (by decide), sq_rd h (by decide) (by decide), sq_tfa h, h 1 (by decide) (by decide), h 5 (by decide) (by decide), h 11 (by decide) (by decide), h 14 (by decide) (by decide)]
  exact s
theorem llS_e {w x y : Wd} {e cn r : Int} (h : e17 x y) (q : llS w x e cn r) : llS w y e cn r := by
  unfold llS FKS at q ⊢
  rw [mat_c (h 22 (by decide)), h 20 (by decide), h 21 (by decide), h 27 (by decide), h 28 (by decide), h 29 (by decide)]
  exact q
/-- what a question about ladders asks of the world -/
def QI (w : Wd) : Prop := SOK w ∧ RI w ∧ INJ w ∧ M3 w ∧ TI w ∧ SK2 w ∧ WI w ∧ ∀ s r : Int, (s = 0 ∨ s = 1) → 0 ≤ r → r < w 1 3 → cntw w s r = 0 ∨ cntw w s r = 1
theorem sq_QI {w u : Wd} (h : sq w u) (q : QI w) : QI u := by
  obtain ⟨q1, q2, q3, q4, q5, q6, q7, q8⟩ := q
  have c1 := h 1 (by decide) (by decide)
  have c2 := h 2 (by decide) (by decide)
  have c5 := h 5 (by decide) (by decide)
  have c6 := h 6 (by decide) (by decide)
  have c7 := h 7 (by decide) (by decide)
  have c8 := h 8 (by decide) (by decide)
  have c9 := h 9 (by decide) (by decide)
  refine ⟨sq_SOK h q1, cell_RI c1 c2 q2, cell_INJ c1 c2 q3, cell_M3 c1 c2 q4, cell_TI c1 c5 c6 c7 q5, cell_SK2 c5 c6 q6, ?_, ?_⟩
  · unfold WI; rw [c1, c8, cell_wfa c9]; exact ⟨q7.1, fun t a b => ⟨cell_smW c9 (q7.2 t a b).1, (q7.2 t a b).2⟩⟩
  · rw [sq_cnt h, c1]; exact q8
theorem blB_R {w : Wd} (hT : TI w) (s e : Int) : 0 ≤ blB w s e ∧ blB w s e ≤ 255 := by
  have := hT.1
  have := bsI_R (blS w s e) (i := w 5 3) 8 (by omega)
  unfold blB; omega
theorem cnS_R {w : Wd} (hR : RI w) (s : Int) : 0 ≤ cnS w s ∧ cnS w s ≤ 1023 := by
  have := hR.1
  have := bsI_R (fun r => cntw w s r = 1) (i := w 1 3) 10 (by omega)
  unfold cnS; omega
/-- laid for a school and an edition -/
def LD (w u : Wd) (s e : Int) : Prop := sq w u ∧ llS u u e (cnS w s) (u 1 3)

set_option maxRecDepth 100000 in
set_option maxHeartbeats 4000000 in
theorem c_X7_refusal {B : Bs} {w : Wd} {s e : Int} (hs : inR s) (he : inR e) : Sp (GX B) 2 yX7_refusal cX7_refusal 2 (Option.some FieldType.int) [iv (s), iv (e)] w (pI w (if s = 0 ∨ s = 1 then (if 0 ≤ e ∧ e ≤ 9 then 0 else -102) else -101)) := by
  refine Sp.of (by decide) (Nat.le_of_ble_eq_true rfl) (fun X F => ?_)
  show Jw (GX B) X _ 0 [some (iv (s)), some (iv (e))] [] w
  refine jr_iload_n F dX7_refusal_0 rfl ?_
  refine jr_sI F dX7_refusal_1 cs_X7_161 (c_X7_isSchool (by omega)) rfl (Nat.le_of_ble_eq_true rfl) (Nat.le_of_ble_eq_true rfl) rfl (Nat.le_of_ble_eq_true rfl) ?_
  refine jr_ifne_b (tgt := 10) F dX7_refusal_4 (by decide) (fun c4 => ?_) (fun c4 => ?_)
  · skip
    refine jr_iload_n F dX7_refusal_10 rfl ?_
    refine jr_iconst F dX7_refusal_11 ?_
    refine jr_bipush F dX7_refusal_12 (by decide) ?_
    refine jr_sI F dX7_refusal_14 cs_X7_65 (c_X7_within (by omega) (by omega) (by omega)) rfl (Nat.le_of_ble_eq_true rfl) (Nat.le_of_ble_eq_true rfl) rfl (Nat.le_of_ble_eq_true rfl) ?_
    refine jr_ifeq_b (tgt := 24) F dX7_refusal_17 (by decide) (fun c17 => ?_) (fun c17 => ?_)
    · skip
      refine jr_bipush F dX7_refusal_24 (by decide) ?_
      exact jr_iret F dX7_refusal_26 (pI_of (by first | (rw [if_neg (by assumption)]; done) | (rw [if_pos (by assumption), if_neg (by assumption)]; done) | (rw [if_pos (by assumption), if_pos (by assumption)]; done)) rfl)
    · skip
      refine jr_iconst F dX7_refusal_20 ?_
      refine jr_goto (tgt := 26) F dX7_refusal_21 (by decide) ?_
      exact jr_iret F dX7_refusal_26 (pI_of (by first | (rw [if_neg (by assumption)]; done) | (rw [if_pos (by assumption), if_neg (by assumption)]; done) | (rw [if_pos (by assumption), if_pos (by assumption)]; done)) rfl)
  · skip
    refine jr_bipush F dX7_refusal_7 (by decide) ?_
    exact jr_iret F dX7_refusal_9 (pI_of (by first | (rw [if_neg (by assumption)]; done) | (rw [if_pos (by assumption), if_neg (by assumption)]; done) | (rw [if_pos (by assumption), if_pos (by assumption)]; done)) rfl)

set_option maxRecDepth 100000 in
set_option maxHeartbeats 4000000 in
theorem c_X7_lay_0 {B : Bs} {w : Wd} {e : Int} (hQ : QI w) (he : 0 ≤ e ∧ e ≤ 9) : Sp (GX B) 6 yX7_lay cX7_lay 5 (Option.some FieldType.int) [.ref (ga (GX B) (0)), iv (0), iv (e)] w (pE (fun x u => x = blB w 0 e ∧ LD w u 0 e ∧ u 32 = w 32 ∧ u 33 = w 33)) := by
  refine Sp.of (by decide) (Nat.le_of_ble_eq_true rfl) (fun X F => ?_)
  obtain ⟨q1, q2, q3, q4, q5, q6, q7, q8⟩ := id hQ
  have n10 := q2.1
  show Jw (GX B) X _ 0 [some (.ref (ga (GX B) (0))), some (iv (0)), some (iv (e))] [] w
  refine jr_iconst F dX7_lay_0 ?_
  refine jr_istore_n F dX7_lay_1 (Nat.le_of_ble_eq_true rfl) rfl ?_
  refine jr_iconst F dX7_lay_2 ?_
  refine jr_istore F dX7_lay_3 (Nat.le_of_ble_eq_true rfl) rfl ?_
  have L5 : ∀ (fuel : Nat) (u : Wd) (i : Int) (z : Int), (w 1 3 - i).toNat < fuel → (0 ≤ i) → (i ≤ w 1 3) → (e17 w u) → (z = bsI (fun r => cntw w 0 r = 1) i) → Jw (GX B) X (pE (fun x u => x = blB w 0 e ∧ LD w u 0 e ∧ u 32 = w 32 ∧ u 33 = w 33)) 5 [some (.ref (ga (GX B) 0)), some (iv 0), some (iv e), some (iv z), some (iv i)] [] u := by
    intro fuel
    induction fuel with
    | zero => intro u i z hfuel; exact absurd hfuel (Nat.not_lt_zero _)
    | succ fuel ih5 =>
        intro u i z hfuel i0 i1 hu hz
        have u1 : u 1 = w 1 := hu 1 (by decide)
        have u2 : u 2 = w 2 := hu 2 (by decide)
        have zR := bsI_R (fun r => cntw w 0 r = 1) (i := i) 10 (by omega)
        refine jr_iload F dX7_lay_5 rfl ?_
        refine jr_aload_n F dX7_lay_7 rfl ?_
        refine jr_getR (t := 1) F dX7_lay_8 fg_X7_10 (Nat.le_of_ble_eq_true rfl) rfl rfl ?_
        refine jr_vI F dX7_lay_11 cv_X7_227 (c_X3_size) (Nat.le_of_ble_eq_true rfl) rfl rfl rfl rfl (Nat.le_of_ble_eq_true rfl) (Nat.le_of_ble_eq_true rfl) rfl (Nat.le_of_ble_eq_true rfl) ?_
        refine jr_ti (b := (w 1 3)) (congrFun u1 3) ?_
        refine jr_icmp_ge (tgt := 36) F dX7_lay_14 (by decide) (fun c14 => ?_) (fun c14 => ?_) (by omega) (by omega)
        · skip
          refine jr_aload_n F dX7_lay_36 rfl ?_
          refine jr_getR (t := 20) F dX7_lay_37 fg_X7_57 (Nat.le_of_ble_eq_true rfl) rfl rfl ?_
          refine jr_iload_n F dX7_lay_40 rfl ?_
          refine jr_iload_n F dX7_lay_41 rfl ?_
          refine jr_vU F dX7_lay_42 cv_X7_272 (c_X1_layLists_20 (cell_RI u1 u2 q2) (cell_INJ u1 u2 q3) (cell_M3 u1 u2 q4) he (by omega)) (Nat.le_of_ble_eq_true rfl) rfl rfl rfl rfl (Nat.le_of_ble_eq_true rfl) (Nat.le_of_ble_eq_true rfl) rfl (Nat.le_of_ble_eq_true rfl) (fun w42 h42 => ?_)
          have s42 : sq w w42 := sq_t (e17_sq hu) (llF_sq h42.1)
          refine jr_aload_n F dX7_lay_45 rfl ?_
          refine jr_iload_n F dX7_lay_46 rfl ?_
          refine jr_iload_n F dX7_lay_47 rfl ?_
          refine jr_vE F dX7_lay_48 cv_X7_206 (c_X7_believedBy_0 (sq_SOK s42 q1) (by omega)) (Nat.le_of_ble_eq_true rfl) rfl rfl rfl rfl (Nat.le_of_ble_eq_true rfl) (Nat.le_of_ble_eq_true rfl) rfl (Nat.le_of_ble_eq_true rfl) (fun r48 w48 h48 => ?_)
          have s48 : sq w w48 := sq_t s42 (e17_sq h48.2)
          exact jr_iret F dX7_lay_51 (pE_of ⟨by rw [h48.1, sq_blS s42, s42 5 (by decide) (by decide)]; rfl, ⟨s48, by rw [s48 1 (by decide) (by decide)]; have y := llS_e h48.2 h42.2; rw [cell_llS u1 u2, u1, hz, show i = w 1 3 by omega] at y; rw [cell_llS (s48 1 (by decide) (by decide)) (s48 2 (by decide) (by decide))]; exact y⟩, (h48.2 32 (by decide)).trans ((h42.1.1 32 (by decide) (by decide) (by decide) (by decide) (by decide) (by decide)).trans (hu 32 (by decide))), (h48.2 33 (by decide)).trans ((h42.1.1 33 (by decide) (by decide) (by decide) (by decide) (by decide) (by decide)).trans (hu 33 (by decide)))⟩)
        · skip
          refine jr_iload_n F dX7_lay_17 rfl ?_
          refine jr_aload_n F dX7_lay_18 rfl ?_
          refine jr_iload_n F dX7_lay_19 rfl ?_
          refine jr_iload F dX7_lay_20 rfl ?_
          refine jr_vE F dX7_lay_22 cv_X7_180 (c_X7_countFor_0 (SOK_e hu q1) (by omega)) (Nat.le_of_ble_eq_true rfl) rfl rfl rfl rfl (Nat.le_of_ble_eq_true rfl) (Nat.le_of_ble_eq_true rfl) rfl (Nat.le_of_ble_eq_true rfl) (fun r22 w22 h22 => ?_)
          refine jr_iload F dX7_lay_25 rfl ?_
          refine jr_ishl F dX7_lay_27 ?_
          refine jr_ior F dX7_lay_28 ?_
          refine jr_top (z := bsI (fun r => cntw w 0 r = 1) (i + 1)) F (by rw [hz, h22.1, e17_cnt hu]; rcases q8 0 i (by omega) i0 (by omega) with c | c; (rw [c, b_sh0 (by omega)]; exact b_orF i0 (by omega) (by omega)); (rw [c]; exact b_orT i0 (by omega) c)) ?_
          refine jr_istore_n F dX7_lay_29 (Nat.le_of_ble_eq_true rfl) rfl ?_
          refine jr_iinc F dX7_lay_30 rfl (Nat.le_of_ble_eq_true rfl) rfl ?_
          refine jr_goto (tgt := 5) F dX7_lay_33 (by decide) ?_
          exact jr_sub (ih5 _ (i + 1) _ (by omega) (by omega) (by omega) (e17_t hu h22.2) rfl) ⟨rfl, rfl, rfl, rfl, rfl, trivial⟩
  exact jr_sub (L5 _ _ 0 0 (Nat.lt_succ_self _) (by omega) (by omega) (e17_r w) rfl) ⟨rfl, rfl, rfl, rfl, rfl, trivial⟩

set_option maxRecDepth 100000 in
set_option maxHeartbeats 4000000 in
theorem c_X7_lay_1 {B : Bs} {w : Wd} {e : Int} (hQ : QI w) (he : 0 ≤ e ∧ e ≤ 9) : Sp (GX B) 6 yX7_lay cX7_lay 5 (Option.some FieldType.int) [.ref (ga (GX B) (0)), iv (1), iv (e)] w (pE (fun x u => x = blB w 1 e ∧ LD w u 1 e ∧ u 32 = w 32 ∧ u 33 = w 33)) := by
  refine Sp.of (by decide) (Nat.le_of_ble_eq_true rfl) (fun X F => ?_)
  obtain ⟨q1, q2, q3, q4, q5, q6, q7, q8⟩ := id hQ
  have n10 := q2.1
  show Jw (GX B) X _ 0 [some (.ref (ga (GX B) (0))), some (iv (1)), some (iv (e))] [] w
  refine jr_iconst F dX7_lay_0 ?_
  refine jr_istore_n F dX7_lay_1 (Nat.le_of_ble_eq_true rfl) rfl ?_
  refine jr_iconst F dX7_lay_2 ?_
  refine jr_istore F dX7_lay_3 (Nat.le_of_ble_eq_true rfl) rfl ?_
  have L5 : ∀ (fuel : Nat) (u : Wd) (i : Int) (z : Int), (w 1 3 - i).toNat < fuel → (0 ≤ i) → (i ≤ w 1 3) → (e17 w u) → (z = bsI (fun r => cntw w 1 r = 1) i) → Jw (GX B) X (pE (fun x u => x = blB w 1 e ∧ LD w u 1 e ∧ u 32 = w 32 ∧ u 33 = w 33)) 5 [some (.ref (ga (GX B) 0)), some (iv 1), some (iv e), some (iv z), some (iv i)] [] u := by
    intro fuel
    induction fuel with
    | zero => intro u i z hfuel; exact absurd hfuel (Nat.not_lt_zero _)
    | succ fuel ih5 =>
        intro u i z hfuel i0 i1 hu hz
        have u1 : u 1 = w 1 := hu 1 (by decide)
        have u2 : u 2 = w 2 := hu 2 (by decide)
        have zR := bsI_R (fun r => cntw w 1 r = 1) (i := i) 10 (by omega)
        refine jr_iload F dX7_lay_5 rfl ?_
        refine jr_aload_n F dX7_lay_7 rfl ?_
        refine jr_getR (t := 1) F dX7_lay_8 fg_X7_10 (Nat.le_of_ble_eq_true rfl) rfl rfl ?_
        refine jr_vI F dX7_lay_11 cv_X7_227 (c_X3_size) (Nat.le_of_ble_eq_true rfl) rfl rfl rfl rfl (Nat.le_of_ble_eq_true rfl) (Nat.le_of_ble_eq_true rfl) rfl (Nat.le_of_ble_eq_true rfl) ?_
        refine jr_ti (b := (w 1 3)) (congrFun u1 3) ?_
        refine jr_icmp_ge (tgt := 36) F dX7_lay_14 (by decide) (fun c14 => ?_) (fun c14 => ?_) (by omega) (by omega)
        · skip
          refine jr_aload_n F dX7_lay_36 rfl ?_
          refine jr_getR (t := 20) F dX7_lay_37 fg_X7_57 (Nat.le_of_ble_eq_true rfl) rfl rfl ?_
          refine jr_iload_n F dX7_lay_40 rfl ?_
          refine jr_iload_n F dX7_lay_41 rfl ?_
          refine jr_vU F dX7_lay_42 cv_X7_272 (c_X1_layLists_20 (cell_RI u1 u2 q2) (cell_INJ u1 u2 q3) (cell_M3 u1 u2 q4) he (by omega)) (Nat.le_of_ble_eq_true rfl) rfl rfl rfl rfl (Nat.le_of_ble_eq_true rfl) (Nat.le_of_ble_eq_true rfl) rfl (Nat.le_of_ble_eq_true rfl) (fun w42 h42 => ?_)
          have s42 : sq w w42 := sq_t (e17_sq hu) (llF_sq h42.1)
          refine jr_aload_n F dX7_lay_45 rfl ?_
          refine jr_iload_n F dX7_lay_46 rfl ?_
          refine jr_iload_n F dX7_lay_47 rfl ?_
          refine jr_vE F dX7_lay_48 cv_X7_206 (c_X7_believedBy_1 (sq_SOK s42 q1) (by omega)) (Nat.le_of_ble_eq_true rfl) rfl rfl rfl rfl (Nat.le_of_ble_eq_true rfl) (Nat.le_of_ble_eq_true rfl) rfl (Nat.le_of_ble_eq_true rfl) (fun r48 w48 h48 => ?_)
          have s48 : sq w w48 := sq_t s42 (e17_sq h48.2)
          exact jr_iret F dX7_lay_51 (pE_of ⟨by rw [h48.1, sq_blS s42, s42 5 (by decide) (by decide)]; rfl, ⟨s48, by rw [s48 1 (by decide) (by decide)]; have y := llS_e h48.2 h42.2; rw [cell_llS u1 u2, u1, hz, show i = w 1 3 by omega] at y; rw [cell_llS (s48 1 (by decide) (by decide)) (s48 2 (by decide) (by decide))]; exact y⟩, (h48.2 32 (by decide)).trans ((h42.1.1 32 (by decide) (by decide) (by decide) (by decide) (by decide) (by decide)).trans (hu 32 (by decide))), (h48.2 33 (by decide)).trans ((h42.1.1 33 (by decide) (by decide) (by decide) (by decide) (by decide) (by decide)).trans (hu 33 (by decide)))⟩)
        · skip
          refine jr_iload_n F dX7_lay_17 rfl ?_
          refine jr_aload_n F dX7_lay_18 rfl ?_
          refine jr_iload_n F dX7_lay_19 rfl ?_
          refine jr_iload F dX7_lay_20 rfl ?_
          refine jr_vE F dX7_lay_22 cv_X7_180 (c_X7_countFor_1 (SOK_e hu q1) (by omega)) (Nat.le_of_ble_eq_true rfl) rfl rfl rfl rfl (Nat.le_of_ble_eq_true rfl) (Nat.le_of_ble_eq_true rfl) rfl (Nat.le_of_ble_eq_true rfl) (fun r22 w22 h22 => ?_)
          refine jr_iload F dX7_lay_25 rfl ?_
          refine jr_ishl F dX7_lay_27 ?_
          refine jr_ior F dX7_lay_28 ?_
          refine jr_top (z := bsI (fun r => cntw w 1 r = 1) (i + 1)) F (by rw [hz, h22.1, e17_cnt hu]; rcases q8 1 i (by omega) i0 (by omega) with c | c; (rw [c, b_sh0 (by omega)]; exact b_orF i0 (by omega) (by omega)); (rw [c]; exact b_orT i0 (by omega) c)) ?_
          refine jr_istore_n F dX7_lay_29 (Nat.le_of_ble_eq_true rfl) rfl ?_
          refine jr_iinc F dX7_lay_30 rfl (Nat.le_of_ble_eq_true rfl) rfl ?_
          refine jr_goto (tgt := 5) F dX7_lay_33 (by decide) ?_
          exact jr_sub (ih5 _ (i + 1) _ (by omega) (by omega) (by omega) (e17_t hu h22.2) rfl) ⟨rfl, rfl, rfl, rfl, rfl, trivial⟩
  exact jr_sub (L5 _ _ 0 0 (Nat.lt_succ_self _) (by omega) (by omega) (e17_r w) rfl) ⟨rfl, rfl, rfl, rfl, rfl, trivial⟩

