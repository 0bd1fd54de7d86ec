/-- by how much a wish closes, as the reference tells it -/
noncomputable def clx (w : Wd) (s e wi : Int) : Int := @ite _ (hasL w s e (blB w s e) (-1)) (Classical.propDecidable _) (gnw w s e (blB w s e) wi (opn w s e (blB w s e) (-1) (w 1 3).toNat)) (-1)
theorem clx_k {w : Wd} {s e wi : Int} (h : ¬ wkn w wi e) : clx w s e wi = -1 := by
  unfold clx gnw
  split
  · rw [if_neg (fun q => h q.1)]
  · rfl
theorem clx_n {w : Wd} {s e wi : Int} (h : ¬ hasL w s e (blB w s e) (-1)) : clx w s e wi = -1 := by unfold clx; rw [if_neg h]
theorem clx_w {w : Wd} {s e wi : Int} (h : ¬ hasL w s e (blB w s e) wi) : clx w s e wi = -1 := by
  unfold clx gnw
  split
  · rw [if_neg (fun q => h q.2)]
  · rfl
theorem clx_y {w : Wd} {s e wi : Int} (hk : wkn w wi e) (h1 : hasL w s e (blB w s e) (-1)) (h2 : hasL w s e (blB w s e) wi) : clx w s e wi = opq w s e (blB w s e) (-1) - opq w s e (blB w s e) wi := by
  unfold clx gnw opq
  rw [if_pos h1, if_pos ⟨hk, h2⟩, if_pos h1, if_pos h2]
theorem opq_R {w : Wd} {s e b wi : Int} (h : SPO w s e b wi) (hn : 0 ≤ w 1 3 ∧ w 1 3 ≤ 10) : -1 ≤ opq w s e b wi ∧ opq w s e b wi ≤ 40000 ∧ (opq w s e b wi = -1 ↔ ¬ hasL w s e b wi) := by
  have o := opn_0 h (w 1 3).toNat (by omega)
  unfold opq
  by_cases q : hasL w s e b wi
  · rw [if_pos q]; exact ⟨by omega, by omega, fun y => by omega, fun y => absurd q y⟩
  · rw [if_neg q]; exact ⟨by omega, by omega, fun _ => q, fun _ => rfl⟩
theorem bstw_e {g f : Int → Int} (h : ∀ i, g i = f i) : ∀ n, bstw g n = bstw f n
  | 0 => rfl
  | n + 1 => by rw [bstw, bstw, bstw_e h n, h]
theorem bstw_m : ∀ n, bstw (fun _ => (-1 : Int)) n = (-1, -1)
  | 0 => rfl
  | n + 1 => by rw [bstw, bstw_m n]; rfl
theorem bes_x {w : Wd} {s e : Int} (hs : s = 0 ∨ s = 1) (he : 0 ≤ e ∧ e ≤ 9) : (bstw (clx w s e) (w 8 3).toNat).1 = besw w s e := by
  unfold besw
  rw [refq_y hs he, if_pos rfl]
  by_cases q : hasL w s e (blB w s e) (-1)
  · rw [if_pos q]
    rw [bstw_e (fun i => show clx w s e i = gnw w s e (blB w s e) i (opn w s e (blB w s e) (-1) (w 1 3).toNat) from by unfold clx; rw [if_pos q])]
  · rw [if_neg q, bstw_e (fun i => clx_n q), bstw_m]

set_option maxRecDepth 100000 in
set_option maxHeartbeats 4000000 in
theorem c_X8_closesOf {B : Bs} {w m : Wd} {s e wi : Int} (hM : RM w m) (hI : IM w) (h6 : ∀ t : Int, 0 ≤ t → t < w 8 3 → wfa w t 6 = 0) (hs : s = 0 ∨ s = 1) (he : 0 ≤ e ∧ e ≤ 9) (hwi : 0 ≤ wi ∧ wi < w 8 3) : Sp (GM B) 5 yX8_closesOf cX8_closesOf 6 (Option.some FieldType.int) [.ref (ga (GM B) (0)), iv (s), iv (e), iv (wi)] m (pE (fun x u => (x = clx w s e wi ∧ -40000 ≤ x ∧ x ≤ 40000) ∧ ws m u)) := by
  refine Sp.of (by decide) (Nat.le_of_ble_eq_true rfl) (fun X F => ?_)
  obtain ⟨⟨i1, i2, i3, i4, i5⟩, ⟨i6, i7⟩, i8, i9, i10, ⟨i11, i12⟩, i13⟩ := id hI
  have n10 := i1.1
  have h3 := i1.1
  have n8 := i3.1
  have n6 := i4.1
  have ww := i4.2 wi (by omega) (by omega)
  have w6 := h6 wi (by omega) (by omega)
  have rw5 := rmW hM (show 0 ≤ wi by omega) (show wi < 6 by omega)
  have kn : wkn w wi e ↔ fa w (wfa w wi 1) 4 ≤ e ∧ fa w (wfa w wi 3) 4 ≤ e := ⟨fun q => ⟨q.2.1.2.2, by rcases q.2.2 with y | y; omega; exact y.2.2⟩, fun q => ⟨by omega, ⟨by omega, by omega, q.1⟩, Or.inr ⟨by omega, by omega, q.2⟩⟩⟩
  show Jw (GM B) X _ 0 [some (.ref (ga (GM B) (0))), some (iv (s)), some (iv (e)), some (iv (wi))] [] m
  refine jr_aload_n F dX8_closesOf_0 rfl ?_
  refine jr_aload_n F dX8_closesOf_1 rfl ?_
  refine jr_getR (t := 14) F dX8_closesOf_2 fg_X8_50 (Nat.le_of_ble_eq_true rfl) rfl rfl ?_
  refine jr_iconst F dX8_closesOf_5 ?_
  refine jr_iload_n F dX8_closesOf_6 rfl ?_
  refine jr_imul F dX8_closesOf_7 ?_
  refine jr_iald F dX8_closesOf_8 (Nat.le_of_ble_eq_true rfl) rfl (by omega) (fun q8 => ?_) (by omega) (by omega)
  refine jr_ti (b := (wfa w wi 1)) rw5.1 ?_
  refine jr_iload_n F dX8_closesOf_9 rfl ?_
  refine jr_vI F dX8_closesOf_10 cv_X8_188 (c_X8_isKnown hM (by omega) (by omega)) (Nat.le_of_ble_eq_true rfl) rfl rfl rfl rfl (Nat.le_of_ble_eq_true rfl) (Nat.le_of_ble_eq_true rfl) rfl (Nat.le_of_ble_eq_true rfl) ?_
  refine jr_ifeq_b (tgt := 34) F dX8_closesOf_13 (by decide) (fun c13 => ?_) (fun c13 => ?_)
  · skip
    refine jr_iconst F dX8_closesOf_34 ?_
    first | exact jr_iret F dX8_closesOf_35 (pE_of ⟨⟨(clx_k (fun q => c13 (kn.mp q).1)).symm, by omega, by omega⟩, ws_r m⟩) | exact jr_iret F dX8_closesOf_35 (pE_of ⟨⟨(clx_k (fun q => c31 (kn.mp q).2)).symm, by omega, by omega⟩, ws_r m⟩)
  · skip
    refine jr_aload_n F dX8_closesOf_16 rfl ?_
    refine jr_aload_n F dX8_closesOf_17 rfl ?_
    refine jr_getR (t := 14) F dX8_closesOf_18 fg_X8_50 (Nat.le_of_ble_eq_true rfl) rfl rfl ?_
    refine jr_iconst F dX8_closesOf_21 ?_
    refine jr_iload_n F dX8_closesOf_22 rfl ?_
    refine jr_imul F dX8_closesOf_23 ?_
    refine jr_iconst F dX8_closesOf_24 ?_
    refine jr_iadd F dX8_closesOf_25 ?_
    refine jr_iald F dX8_closesOf_26 (Nat.le_of_ble_eq_true rfl) rfl (by omega) (fun q26 => ?_) (by omega) (by omega)
    refine jr_ti (b := (wfa w wi 3)) rw5.2.2.1 ?_
    refine jr_iload_n F dX8_closesOf_27 rfl ?_
    refine jr_vI F dX8_closesOf_28 cv_X8_188 (c_X8_isKnown hM (by omega) (by omega)) (Nat.le_of_ble_eq_true rfl) rfl rfl rfl rfl (Nat.le_of_ble_eq_true rfl) (Nat.le_of_ble_eq_true rfl) rfl (Nat.le_of_ble_eq_true rfl) ?_
    refine jr_ifne_b (tgt := 36) F dX8_closesOf_31 (by decide) (fun c31 => ?_) (fun c31 => ?_)
    · skip
      refine jr_aload_n F dX8_closesOf_36 rfl ?_
      refine jr_iload_n F dX8_closesOf_37 rfl ?_
      refine jr_iload_n F dX8_closesOf_38 rfl ?_
      refine jr_vE F dX8_closesOf_39 cv_X8_219 (c_X8_tiesOf hM i3 i5 n10 i11 i12 i13 hs (by omega)) (Nat.le_of_ble_eq_true rfl) rfl rfl rfl rfl (Nat.le_of_ble_eq_true rfl) (Nat.le_of_ble_eq_true rfl) rfl (Nat.le_of_ble_eq_true rfl) (fun r39 w39 h39 => ?_)
      have B39 := blB_R i3 s e
      have M39 : RM w w39 := wk_RM h39.2 hM
      have W39 : ws m w39 := wk_ws h39.2
      rw [h39.1]
      refine jr_istore F dX8_closesOf_42 (Nat.le_of_ble_eq_true rfl) rfl ?_
      refine jr_aload_n F dX8_closesOf_44 rfl ?_
      refine jr_iload_n F dX8_closesOf_45 rfl ?_
      refine jr_iload_n F dX8_closesOf_46 rfl ?_
      refine jr_iload F dX8_closesOf_47 rfl ?_
      refine jr_iconst F dX8_closesOf_49 ?_
      refine jr_vU F dX8_closesOf_50 cv_X8_222 (c_X8_solve M39 hI hs he (by omega) (by omega) (KB_b s e)) (Nat.le_of_ble_eq_true rfl) rfl rfl rfl rfl (Nat.le_of_ble_eq_true rfl) (Nat.le_of_ble_eq_true rfl) rfl (Nat.le_of_ble_eq_true rfl) (fun w50 h50 => ?_)
      have M50 : RM w w50 := ws_RM h50.1 M39
      have W50 : ws m w50 := ws_t W39 h50.1
      refine jr_aload_n F dX8_closesOf_53 rfl ?_
      refine jr_iload_n F dX8_closesOf_54 rfl ?_
      refine jr_vI F dX8_closesOf_55 cv_X8_234 (c_X8_openNow M50 n10 (by omega) h50.2) (Nat.le_of_ble_eq_true rfl) rfl rfl rfl rfl (Nat.le_of_ble_eq_true rfl) (Nat.le_of_ble_eq_true rfl) rfl (Nat.le_of_ble_eq_true rfl) ?_
      refine jr_istore F dX8_closesOf_58 (Nat.le_of_ble_eq_true rfl) rfl ?_
      refine jr_aload_n F dX8_closesOf_60 rfl ?_
      refine jr_iload_n F dX8_closesOf_61 rfl ?_
      refine jr_iload_n F dX8_closesOf_62 rfl ?_
      refine jr_iload F dX8_closesOf_63 rfl ?_
      refine jr_iload_n F dX8_closesOf_65 rfl ?_
      refine jr_vU F dX8_closesOf_66 cv_X8_222 (c_X8_solve M50 hI hs he (by omega) (by omega) ⟨(KB_b s e).1, fun _ => ⟨⟨by omega, by omega⟩, by omega, by omega⟩⟩) (Nat.le_of_ble_eq_true rfl) rfl rfl rfl rfl (Nat.le_of_ble_eq_true rfl) (Nat.le_of_ble_eq_true rfl) rfl (Nat.le_of_ble_eq_true rfl) (fun w66 h66 => ?_)
      have M66 : RM w w66 := ws_RM h66.1 M50
      have W66 : ws m w66 := ws_t W50 h66.1
      refine jr_iload F dX8_closesOf_69 rfl ?_
      have o1 := opq_R h50.2.2 n10
      have o2 := opq_R h66.2.2 n10
      refine jr_iconst F dX8_closesOf_71 ?_
      refine jr_icmp_eq (tgt := 82) F dX8_closesOf_72 (by decide) (fun c72 => ?_) (fun c72 => ?_) (by omega) (by omega)
      · skip
        refine jr_iconst F dX8_closesOf_82 ?_
        refine jr_goto (tgt := 94) F dX8_closesOf_83 (by decide) ?_
        first | exact jr_iret F dX8_closesOf_94 (pE_of ⟨⟨(clx_n (o1.2.2.mp (by omega))).symm, by omega, by omega⟩, W66⟩) | exact jr_iret F dX8_closesOf_94 (pE_of ⟨⟨(clx_w c79).symm, by omega, by omega⟩, W66⟩) | (have o4 : 0 ≤ opq w s e (blB w s e) wi := by { rcases (show opq w s e (blB w s e) wi = -1 ∨ 0 ≤ opq w s e (blB w s e) wi by omega) with q | q; exact absurd c79 (o2.2.2.mp q); exact q }; exact jr_iret F dX8_closesOf_94 (pE_of ⟨⟨(clx_y (kn.mpr ⟨c13, c31⟩) (Classical.byContradiction (fun q => by have := o1.2.2.mpr q; omega)) c79).symm, by omega, by omega⟩, W66⟩))
      · skip
        refine jr_aload_n F dX8_closesOf_75 rfl ?_
        refine jr_getZx F (bi (hasL w s e (blB w s e) wi)) dX8_closesOf_76 fg_X8_201 (Nat.le_of_ble_eq_true rfl) rfl rfl h66.2.1.1 (fun q76 => ?_)
        refine jr_ifne_b (tgt := 86) F dX8_closesOf_79 (by decide) (fun c79 => ?_) (fun c79 => ?_)
        · skip
          refine jr_iload F dX8_closesOf_86 rfl ?_
          refine jr_aload_n F dX8_closesOf_88 rfl ?_
          refine jr_iload_n F dX8_closesOf_89 rfl ?_
          refine jr_vI F dX8_closesOf_90 cv_X8_234 (c_X8_openNow M66 n10 (by omega) h66.2) (Nat.le_of_ble_eq_true rfl) rfl rfl rfl rfl (Nat.le_of_ble_eq_true rfl) (Nat.le_of_ble_eq_true rfl) rfl (Nat.le_of_ble_eq_true rfl) ?_
          refine jr_isub F dX8_closesOf_93 ?_
          first | exact jr_iret F dX8_closesOf_94 (pE_of ⟨⟨(clx_n (o1.2.2.mp (by omega))).symm, by omega, by omega⟩, W66⟩) | exact jr_iret F dX8_closesOf_94 (pE_of ⟨⟨(clx_w c79).symm, by omega, by omega⟩, W66⟩) | (have o4 : 0 ≤ opq w s e (blB w s e) wi := by { rcases (show opq w s e (blB w s e) wi = -1 ∨ 0 ≤ opq w s e (blB w s e) wi by omega) with q | q; exact absurd c79 (o2.2.2.mp q); exact q }; exact jr_iret F dX8_closesOf_94 (pE_of ⟨⟨(clx_y (kn.mpr ⟨c13, c31⟩) (Classical.byContradiction (fun q => by have := o1.2.2.mpr q; omega)) c79).symm, by omega, by omega⟩, W66⟩))
        · skip
          refine jr_iconst F dX8_closesOf_82 ?_
          refine jr_goto (tgt := 94) F dX8_closesOf_83 (by decide) ?_
          first | exact jr_iret F dX8_closesOf_94 (pE_of ⟨⟨(clx_n (o1.2.2.mp (by omega))).symm, by omega, by omega⟩, W66⟩) | exact jr_iret F dX8_closesOf_94 (pE_of ⟨⟨(clx_w c79).symm, by omega, by omega⟩, W66⟩) | (have o4 : 0 ≤ opq w s e (blB w s e) wi := by { rcases (show opq w s e (blB w s e) wi = -1 ∨ 0 ≤ opq w s e (blB w s e) wi by omega) with q | q; exact absurd c79 (o2.2.2.mp q); exact q }; exact jr_iret F dX8_closesOf_94 (pE_of ⟨⟨(clx_y (kn.mpr ⟨c13, c31⟩) (Classical.byContradiction (fun q => by have := o1.2.2.mpr q; omega)) c79).symm, by omega, by omega⟩, W66⟩))
    · skip
      refine jr_iconst F dX8_closesOf_34 ?_
      first | exact jr_iret F dX8_closesOf_35 (pE_of ⟨⟨(clx_k (fun q => c13 (kn.mp q).1)).symm, by omega, by omega⟩, ws_r m⟩) | exact jr_iret F dX8_closesOf_35 (pE_of ⟨⟨(clx_k (fun q => c31 (kn.mp q).2)).symm, by omega, by omega⟩, ws_r m⟩)

set_option maxRecDepth 100000 in
set_option maxHeartbeats 4000000 in
theorem c_X8_closes {B : Bs} {w m : Wd} {s e wi : Int} (hM : RM w m) (hI : IM w) (h6 : ∀ t : Int, 0 ≤ t → t < w 8 3 → wfa w t 6 = 0) (hs : inR s) (he : inR e) (hwi : inR wi) : Sp (GM B) 6 yX8_closes cX8_closes 4 (Option.some FieldType.int) [.ref (ga (GM B) (0)), iv (s), iv (e), iv (wi)] m (pE (fun x u => x = clow w s e wi ∧ ws m u)) := by
  refine Sp.of (by decide) (Nat.le_of_ble_eq_true rfl) (fun X F => ?_)
  obtain ⟨⟨i1, i2, i3, i4, i5⟩, ⟨i6, i7⟩, i8, i9, i10, ⟨i11, i12⟩, i13⟩ := id hI
  have n10 := i1.1
  have h3 := i1.1
  have n8 := i3.1
  have n6 := i4.1
  show Jw (GM B) X _ 0 [some (.ref (ga (GM B) (0))), some (iv (s)), some (iv (e)), some (iv (wi))] [] m
  refine jr_iload_n F dX8_closes_0 rfl ?_
  refine jr_sI F dX8_closes_1 cs_X8_160 (c_X8_isSchool (by omega)) rfl (Nat.le_of_ble_eq_true rfl) (Nat.le_of_ble_eq_true rfl) rfl (Nat.le_of_ble_eq_true rfl) ?_
  refine jr_ifne_b (tgt := 10) F dX8_closes_4 (by decide) (fun c4 => ?_) (fun c4 => ?_)
  · skip
    refine jr_iload_n F dX8_closes_10 rfl ?_
    refine jr_sI F dX8_closes_11 cs_X8_92 (c_X8_isEdition (by omega)) rfl (Nat.le_of_ble_eq_true rfl) (Nat.le_of_ble_eq_true rfl) rfl (Nat.le_of_ble_eq_true rfl) ?_
    refine jr_ifne_b (tgt := 20) F dX8_closes_14 (by decide) (fun c14 => ?_) (fun c14 => ?_)
    · skip
      refine jr_iload_n F dX8_closes_20 rfl ?_
      refine jr_iconst F dX8_closes_21 ?_
      refine jr_aload_n F dX8_closes_22 rfl ?_
      refine jr_getIx F (w 8 3) dX8_closes_23 fg_X8_237 (Nat.le_of_ble_eq_true rfl) rfl rfl ((show m 0 16 = (w 8 3) from rn16 hM)) (fun q23 => ?_)
      refine jr_iconst F dX8_closes_26 ?_
      refine jr_isub F dX8_closes_27 ?_
      refine jr_sI F dX8_closes_28 cs_X8_88 (c_X8_lies (by omega) (by omega) (by omega)) rfl (Nat.le_of_ble_eq_true rfl) (Nat.le_of_ble_eq_true rfl) rfl (Nat.le_of_ble_eq_true rfl) ?_
      refine jr_ifeq_b (tgt := 44) F dX8_closes_31 (by decide) (fun c31 => ?_) (fun c31 => ?_)
      · skip
        refine jr_bipush F dX8_closes_44 (by decide) ?_
        first | exact jr_iret F dX8_closes_46 (pE_of ⟨by unfold clow; rw [refq_y c4 c14, if_pos rfl, if_pos (by omega)], ws_r m⟩) | exact jr_iret F dX8_closes_46 (pE_of ⟨by unfold clow; rw [refq_y c4 c14, if_pos rfl, if_neg (by omega)]; exact h38.1.1, h38.2⟩)
      · skip
        refine jr_aload_n F dX8_closes_34 rfl ?_
        refine jr_iload_n F dX8_closes_35 rfl ?_
        refine jr_iload_n F dX8_closes_36 rfl ?_
        refine jr_iload_n F dX8_closes_37 rfl ?_
        refine jr_vE F dX8_closes_38 cv_X8_240 (c_X8_closesOf hM hI h6 c4 c14 (by omega)) (Nat.le_of_ble_eq_true rfl) rfl rfl rfl rfl (Nat.le_of_ble_eq_true rfl) (Nat.le_of_ble_eq_true rfl) rfl (Nat.le_of_ble_eq_true rfl) (fun r38 w38 h38 => ?_)
        refine jr_goto (tgt := 46) F dX8_closes_41 (by decide) ?_
        first | exact jr_iret F dX8_closes_46 (pE_of ⟨by unfold clow; rw [refq_y c4 c14, if_pos rfl, if_pos (by omega)], ws_r m⟩) | exact jr_iret F dX8_closes_46 (pE_of ⟨by unfold clow; rw [refq_y c4 c14, if_pos rfl, if_neg (by omega)]; exact h38.1.1, h38.2⟩)
    · skip
      refine jr_bipush F dX8_closes_17 (by decide) ?_
      exact jr_iret F dX8_closes_19 (pE_of ⟨by unfold clow; rw [refq_e c4 c14, if_neg (by omega)], ws_r m⟩)
  · skip
    refine jr_bipush F dX8_closes_7 (by decide) ?_
    exact jr_iret F dX8_closes_9 (pE_of ⟨by unfold clow; rw [refq_s c4, if_neg (by omega)], ws_r m⟩)

set_option maxRecDepth 100000 in
set_option maxHeartbeats 4000000 in
theorem c_X8_best {B : Bs} {w m : Wd} {s e : Int} (hM : RM w m) (hI : IM w) (h6 : ∀ t : Int, 0 ≤ t → t < w 8 3 → wfa w t 6 = 0) (hs : inR s) (he : inR e) : Sp (GM B) 6 yX8_best cX8_best 7 (Option.some FieldType.int) [.ref (ga (GM B) (0)), iv (s), iv (e)] m (pE (fun x u => x = besw w s e ∧ ws m u)) := by
  refine Sp.of (by decide) (Nat.le_of_ble_eq_true rfl) (fun X F => ?_)
  obtain ⟨⟨i1, i2, i3, i4, i5⟩, ⟨i6, i7⟩, i8, i9, i10, ⟨i11, i12⟩, i13⟩ := id hI
  have n10 := i1.1
  have h3 := i1.1
  have n8 := i3.1
  have n6 := i4.1
  show Jw (GM B) X _ 0 [some (.ref (ga (GM B) (0))), some (iv (s)), some (iv (e))] [] m
  refine jr_iload_n F dX8_best_0 rfl ?_
  refine jr_sI F dX8_best_1 cs_X8_160 (c_X8_isSchool (by omega)) rfl (Nat.le_of_ble_eq_true rfl) (Nat.le_of_ble_eq_true rfl) rfl (Nat.le_of_ble_eq_true rfl) ?_
  refine jr_ifne_b (tgt := 10) F dX8_best_4 (by decide) (fun c4 => ?_) (fun c4 => ?_)
  · skip
    refine jr_iload_n F dX8_best_10 rfl ?_
    refine jr_sI F dX8_best_11 cs_X8_92 (c_X8_isEdition (by omega)) rfl (Nat.le_of_ble_eq_true rfl) (Nat.le_of_ble_eq_true rfl) rfl (Nat.le_of_ble_eq_true rfl) ?_
    refine jr_ifne_b (tgt := 20) F dX8_best_14 (by decide) (fun c14 => ?_) (fun c14 => ?_)
    · skip
      refine jr_iconst F dX8_best_20 ?_
      refine jr_istore_n F dX8_best_21 (Nat.le_of_ble_eq_true rfl) rfl ?_
      refine jr_iconst F dX8_best_22 ?_
      refine jr_istore F dX8_best_23 (Nat.le_of_ble_eq_true rfl) rfl ?_
      refine jr_iconst F dX8_best_25 ?_
      refine jr_istore F dX8_best_26 (Nat.le_of_ble_eq_true rfl) rfl ?_
      have L28 : ∀ (fuel : Nat) (x : Wd) (i : Int) (bs : Int) (ms : Int), (w 8 3 - i).toNat < fuel → (0 ≤ i ∧ i ≤ w 8 3) → (s = 0 ∨ s = 1) → (0 ≤ e ∧ e ≤ 9) → (ws m x) → (-40000 ≤ ms ∧ ms ≤ 40000) → (bstw (clx w s e) i.toNat = (bs, ms)) → Jw (GM B) X (pE (fun x u => x = besw w s e ∧ ws m u)) 28 [some (.ref (ga (GM B) 0)), some (iv s), some (iv e), some (iv bs), some (iv ms), some (iv i)] [] x := by
        intro fuel
        induction fuel with
        | zero => intro x i bs ms hfuel; exact absurd hfuel (Nat.not_lt_zero _)
        | succ fuel ih28 =>
            intro x i bs ms hfuel i0 k4 k14 hx hm hb
            have Mx : RM w x := ws_RM hx hM
            refine jr_iload F dX8_best_28 rfl ?_
            refine jr_aload_n F dX8_best_30 rfl ?_
            refine jr_getIx F (w 8 3) dX8_best_31 fg_X8_237 (Nat.le_of_ble_eq_true rfl) rfl rfl ((show x 0 16 = (w 8 3) from rn16 Mx)) (fun q31 => ?_)
            refine jr_icmp_ge (tgt := 83) F dX8_best_34 (by decide) (fun c34 => ?_) (fun c34 => ?_) (by omega) (by omega)
            · skip
              refine jr_iload_n F dX8_best_83 rfl ?_
              exact jr_iret F dX8_best_84 (pE_of ⟨by rw [← bes_x k4 k14, ← show i = w 8 3 by omega, hb], hx⟩)
            · skip
              refine jr_aload_n F dX8_best_37 rfl ?_
              refine jr_iload_n F dX8_best_38 rfl ?_
              refine jr_iload_n F dX8_best_39 rfl ?_
              refine jr_iload F dX8_best_40 rfl ?_
              refine jr_vE F dX8_best_42 cv_X8_240 (c_X8_closesOf Mx hI h6 k4 k14 (by omega)) (Nat.le_of_ble_eq_true rfl) rfl rfl rfl rfl (Nat.le_of_ble_eq_true rfl) (Nat.le_of_ble_eq_true rfl) rfl (Nat.le_of_ble_eq_true rfl) (fun r42 w42 h42 => ?_)
              have W42 : ws m w42 := ws_t hx h42.2
              have e42 := h42.1.1
              refine jr_istore F dX8_best_45 (Nat.le_of_ble_eq_true rfl) rfl ?_
              refine jr_iload F dX8_best_47 rfl ?_
              refine jr_iload F dX8_best_49 rfl ?_
              refine jr_icmp_le (tgt := 59) F dX8_best_51 (by decide) (fun c51 => ?_) (fun c51 => ?_) (by omega) (by omega)
              · skip
                refine jr_iload_n F dX8_best_59 rfl ?_
                refine jr_istore_n F dX8_best_60 (Nat.le_of_ble_eq_true rfl) rfl ?_
                refine jr_iload F dX8_best_61 rfl ?_
                refine jr_iload F dX8_best_63 rfl ?_
                refine jr_icmp_le (tgt := 73) F dX8_best_65 (by decide) (fun c65 => ?_) (fun c65 => ?_) (by omega) (by omega)
                · skip
                  refine jr_iload F dX8_best_73 rfl ?_
                  refine jr_istore F dX8_best_75 (Nat.le_of_ble_eq_true rfl) rfl ?_
                  refine jr_iinc F dX8_best_77 rfl (Nat.le_of_ble_eq_true rfl) rfl ?_
                  refine jr_goto (tgt := 28) F dX8_best_80 (by decide) ?_
                  first | (exfalso; omega) | exact jr_sub (ih28 _ (i + 1) _ _ (by omega) (by omega) k4 k14 W42 (by omega) (by first | (rw [bstw_n i0.1 (by rw [hb]; show ¬ ms < _; omega), hb]; done) | (rw [bstw_y i0.1 (by rw [hb]; show ms < _; omega), h42.1.1]; done))) ⟨rfl, rfl, rfl, rfl, rfl, rfl, trivial⟩
                · skip
                  refine jr_iload F dX8_best_68 rfl ?_
                  refine jr_goto (tgt := 75) F dX8_best_70 (by decide) ?_
                  refine jr_istore F dX8_best_75 (Nat.le_of_ble_eq_true rfl) rfl ?_
                  refine jr_iinc F dX8_best_77 rfl (Nat.le_of_ble_eq_true rfl) rfl ?_
                  refine jr_goto (tgt := 28) F dX8_best_80 (by decide) ?_
                  first | (exfalso; omega) | exact jr_sub (ih28 _ (i + 1) _ _ (by omega) (by omega) k4 k14 W42 (by omega) (by first | (rw [bstw_n i0.1 (by rw [hb]; show ¬ ms < _; omega), hb]; done) | (rw [bstw_y i0.1 (by rw [hb]; show ms < _; omega), h42.1.1]; done))) ⟨rfl, rfl, rfl, rfl, rfl, rfl, trivial⟩
              · skip
                refine jr_iload F dX8_best_54 rfl ?_
                refine jr_goto (tgt := 60) F dX8_best_56 (by decide) ?_
                refine jr_istore_n F dX8_best_60 (Nat.le_of_ble_eq_true rfl) rfl ?_
                refine jr_iload F dX8_best_61 rfl ?_
                refine jr_iload F dX8_best_63 rfl ?_
                refine jr_icmp_le (tgt := 73) F dX8_best_65 (by decide) (fun c65 => ?_) (fun c65 => ?_) (by omega) (by omega)
                · skip
                  refine jr_iload F dX8_best_73 rfl ?_
                  refine jr_istore F dX8_best_75 (Nat.le_of_ble_eq_true rfl) rfl ?_
                  refine jr_iinc F dX8_best_77 rfl (Nat.le_of_ble_eq_true rfl) rfl ?_
                  refine jr_goto (tgt := 28) F dX8_best_80 (by decide) ?_
                  first | (exfalso; omega) | exact jr_sub (ih28 _ (i + 1) _ _ (by omega) (by omega) k4 k14 W42 (by omega) (by first | (rw [bstw_n i0.1 (by rw [hb]; show ¬ ms < _; omega), hb]; done) | (rw [bstw_y i0.1 (by rw [hb]; show ms < _; omega), h42.1.1]; done))) ⟨rfl, rfl, rfl, rfl, rfl, rfl, trivial⟩
                · skip
                  refine jr_iload F dX8_best_68 rfl ?_
                  refine jr_goto (tgt := 75) F dX8_best_70 (by decide) ?_
                  refine jr_istore F dX8_best_75 (Nat.le_of_ble_eq_true rfl) rfl ?_
                  refine jr_iinc F dX8_best_77 rfl (Nat.le_of_ble_eq_true rfl) rfl ?_
                  refine jr_goto (tgt := 28) F dX8_best_80 (by decide) ?_
                  first | (exfalso; omega) | exact jr_sub (ih28 _ (i + 1) _ _ (by omega) (by omega) k4 k14 W42 (by omega) (by first | (rw [bstw_n i0.1 (by rw [hb]; show ¬ ms < _; omega), hb]; done) | (rw [bstw_y i0.1 (by rw [hb]; show ms < _; omega), h42.1.1]; done))) ⟨rfl, rfl, rfl, rfl, rfl, rfl, trivial⟩
      exact jr_sub (L28 _ _ 0 (-1) (-1) (Nat.lt_succ_self _) (by omega) c4 c14 (ws_r m) (by omega) rfl) ⟨rfl, rfl, rfl, rfl, rfl, rfl, trivial⟩
    · skip
      refine jr_bipush F dX8_best_17 (by decide) ?_
      exact jr_iret F dX8_best_19 (pE_of ⟨by unfold besw; rw [refq_e c4 c14, if_neg (by omega)], ws_r m⟩)
  · skip
    refine jr_bipush F dX8_best_7 (by decide) ?_
    exact jr_iret F dX8_best_9 (pE_of ⟨by unfold besw; rw [refq_s c4, if_neg (by omega)], ws_r m⟩)

def KPM (w x : Wd) (n : Int) : Prop := ∀ r : Int, 0 ≤ r → r < n → x 23 r = spn w 0 9 (blB w 0 9) (-1) r 0 ∧ x 24 r = spn w 0 9 (blB w 0 9) (-1) r 1
theorem KPM_s {w x : Wd} {n : Int} (h : KPM w x n) : KPM w (up (up x 23 n (spn w 0 9 (blB w 0 9) (-1) n 0)) 24 n (spn w 0 9 (blB w 0 9) (-1) n 1)) (n + 1) := by
  intro r r0 r1
  by_cases q : r = n
  · subst q; exact ⟨by rw [up_cell (by decide), up_self], by rw [up_self]⟩
  · have y := h r r0 (by omega)
    exact ⟨by rw [up_cell (by decide), up_ne (by omega)]; exact y.1, by rw [up_ne (by omega), up_cell (by decide)]; exact y.2⟩
theorem sm_up {m u : Wd} (h : sm m u) {k : Nat} (hk : 15 ≤ k) (i v : Int) : sm m (up u k i v) := ⟨fun c a b => by rw [up_cell (by omega)]; exact h.1 c a b, by rw [up_cell (by omega)]; exact h.2.1, by rw [up_cell (by omega)]; exact h.2.2.1, by rw [up_cell (by omega)]; exact h.2.2.2.1, by rw [up_cell (by omega)]; exact h.2.2.2.2.1, by rw [up_cell (by omega)]; exact h.2.2.2.2.2⟩

set_option maxRecDepth 100000 in
set_option maxHeartbeats 4000000 in
theorem c_X8_part {B : Bs} {w m : Wd}  (hM : RM w m) (hI : IM w) : Sp (GM B) 5 yX8_part cX8_part 2 (Option.some FieldType.int) [.ref (ga (GM B) (0))] m (pE (fun x u => x = parw w ∧ sm m u)) := by
  refine Sp.of (by decide) (Nat.le_of_ble_eq_true rfl) (fun X F => ?_)
  obtain ⟨⟨i1, i2, i3, i4, i5⟩, ⟨i6, i7⟩, i8, i9, i10, ⟨i11, i12⟩, i13⟩ := id hI
  have n10 := i1.1
  have h3 := i1.1
  have n8 := i3.1
  have n6 := i4.1
  show Jw (GM B) X _ 0 [some (.ref (ga (GM B) (0)))] [] m
  refine jr_aload_n F dX8_part_0 rfl ?_
  refine jr_iconst F dX8_part_1 ?_
  refine jr_bipush F dX8_part_2 (by decide) ?_
  refine jr_aload_n F dX8_part_4 rfl ?_
  refine jr_iconst F dX8_part_5 ?_
  refine jr_bipush F dX8_part_6 (by decide) ?_
  refine jr_vE F dX8_part_8 cv_X8_219 (c_X8_tiesOf hM i3 i5 n10 i11 i12 i13 (Or.inl rfl) (by omega)) (Nat.le_of_ble_eq_true rfl) rfl rfl rfl rfl (Nat.le_of_ble_eq_true rfl) (Nat.le_of_ble_eq_true rfl) rfl (Nat.le_of_ble_eq_true rfl) (fun r8 w8 h8 => ?_)
  have B8 := blB_R i3 0 9
  have M8 : RM w w8 := wk_RM h8.2 hM
  have W8 : ws m w8 := wk_ws h8.2
  rw [h8.1]
  refine jr_iconst F dX8_part_11 ?_
  refine jr_vU F dX8_part_12 cv_X8_222 (c_X8_solve M8 hI (Or.inl rfl) (by omega) (by omega) (by omega) (KB_b 0 9)) (Nat.le_of_ble_eq_true rfl) rfl rfl rfl rfl (Nat.le_of_ble_eq_true rfl) (Nat.le_of_ble_eq_true rfl) rfl (Nat.le_of_ble_eq_true rfl) (fun w12 h12 => ?_)
  have M12 : RM w w12 := ws_RM h12.1 M8
  have W12 : ws m w12 := ws_t W8 h12.1
  refine jr_iconst F dX8_part_15 ?_
  refine jr_istore_n F dX8_part_16 (Nat.le_of_ble_eq_true rfl) rfl ?_
  have L17 : ∀ (fuel : Nat) (x : Wd) (i : Int), (w 1 3 - i).toNat < fuel → (0 ≤ i ∧ i ≤ w 1 3) → (sm m x) → (x 21 = w12 21) → (x 22 = w12 22) → (KPM w x i) → Jw (GM B) X (pE (fun x u => x = parw w ∧ sm m u)) 17 [some (.ref (ga (GM B) 0)), some (iv i)] [] x := by
    intro fuel
    induction fuel with
    | zero => intro x i hfuel; exact absurd hfuel (Nat.not_lt_zero _)
    | succ fuel ih17 =>
        intro x i hfuel i0 hx x21 x22 hk
        have Mx : RM w x := sm_RM hx hM
        refine jr_iload_n F dX8_part_17 rfl ?_
        refine jr_aload_n F dX8_part_18 rfl ?_
        refine jr_getIx F (w 1 3) dX8_part_19 fg_X8_84 (Nat.le_of_ble_eq_true rfl) rfl rfl ((show x 0 0 = (w 1 3) from rn0 Mx)) (fun q19 => ?_)
        refine jr_icmp_ge (tgt := 55) F dX8_part_22 (by decide) (fun c22 => ?_) (fun c22 => ?_) (by omega) (by omega)
        · skip
          obtain rfl : i = w 1 3 := by omega
          refine jr_aload_n F dX8_part_55 rfl ?_
          refine jr_iconst F dX8_part_56 ?_
          refine jr_bipush F dX8_part_57 (by decide) ?_
          refine jr_aload_n F dX8_part_59 rfl ?_
          refine jr_iconst F dX8_part_60 ?_
          refine jr_bipush F dX8_part_61 (by decide) ?_
          refine jr_vE F dX8_part_63 cv_X8_219 (c_X8_tiesOf Mx i3 i5 n10 i11 i12 i13 (Or.inr rfl) (by omega)) (Nat.le_of_ble_eq_true rfl) rfl rfl rfl rfl (Nat.le_of_ble_eq_true rfl) (Nat.le_of_ble_eq_true rfl) rfl (Nat.le_of_ble_eq_true rfl) (fun r63 w63 h63 => ?_)
          have B63 := blB_R i3 1 9
          have M63 : RM w w63 := wk_RM h63.2 Mx
          rw [h63.1]
          refine jr_iconst F dX8_part_66 ?_
          refine jr_vU F dX8_part_67 cv_X8_222 (c_X8_solve M63 hI (Or.inr rfl) (by omega) (by omega) (by omega) (KB_b 1 9)) (Nat.le_of_ble_eq_true rfl) rfl rfl rfl rfl (Nat.le_of_ble_eq_true rfl) (Nat.le_of_ble_eq_true rfl) rfl (Nat.le_of_ble_eq_true rfl) (fun w67 h67 => ?_)
          have M67 : RM w w67 := ws_RM h67.1 M63
          have S67 : sm m w67 := sm_t hx (sm_t (wk_sm h63.2) h67.1.1)
          have z23 : w67 23 = x 23 := h67.1.2.1.trans (h63.2.1 23 (by decide) (by decide) (by decide) (by decide) (by decide))
          have z24 : w67 24 = x 24 := h67.1.2.2.1.trans (h63.2.1 24 (by decide) (by decide) (by decide) (by decide) (by decide))
          refine jr_iconst F dX8_part_70 ?_
          refine jr_istore_n F dX8_part_71 (Nat.le_of_ble_eq_true rfl) rfl ?_
          have L72 : ∀ (fuel : Nat) (i : Int), (w 1 3 - i).toNat < fuel → (0 ≤ i ∧ i ≤ w 1 3) → (fuP (paP w) (w 1 3).toNat 0 = fuP (paP w) (w 1 3 - i).toNat i) → Jw (GM B) X (pE (fun x u => x = parw w ∧ sm m u)) 72 [some (.ref (ga (GM B) 0)), some (iv i)] [] w67 := by
            intro fuel
            induction fuel with
            | zero => intro i hfuel; exact absurd hfuel (Nat.not_lt_zero _)
            | succ fuel ih72 =>
                intro i hfuel k0 hz
                refine jr_iload_n F dX8_part_72 rfl ?_
                refine jr_aload_n F dX8_part_73 rfl ?_
                refine jr_getIx F (w 1 3) dX8_part_74 fg_X8_84 (Nat.le_of_ble_eq_true rfl) rfl rfl ((show w67 0 0 = (w 1 3) from rn0 M67)) (fun q74 => ?_)
                refine jr_icmp_ge (tgt := 118) F dX8_part_77 (by decide) (fun c77 => ?_) (fun c77 => ?_) (by omega) (by omega)
                · skip
                  refine jr_iconst F dX8_part_118 ?_
                  exact jr_iret F dX8_part_119 (pE_of ⟨by unfold parw; rw [hz, show (w 1 3 - i).toNat = 0 by omega]; rfl, S67⟩)
                · skip
                  refine jr_aload_n F dX8_part_80 rfl ?_
                  refine jr_getR (t := 23) F dX8_part_81 fg_X8_78 (Nat.le_of_ble_eq_true rfl) rfl rfl ?_
                  refine jr_iload_n F dX8_part_84 rfl ?_
                  refine jr_iald F dX8_part_85 (Nat.le_of_ble_eq_true rfl) rfl (by omega) (fun q85 => ?_) (by omega) (by omega)
                  refine jr_ti (b := (spn w 0 9 (blB w 0 9) (-1) i 0)) (by rw [z23]; exact (hk i (by omega) (by omega)).1) ?_
                  have y23 : w67 23 i = spn w 0 9 (blB w 0 9) (-1) i 0 := by rw [z23]; exact (hk i (by omega) (by omega)).1
                  refine jr_aload_n F dX8_part_86 rfl ?_
                  refine jr_getR (t := 21) F dX8_part_87 fg_X8_72 (Nat.le_of_ble_eq_true rfl) rfl rfl ?_
                  refine jr_iload_n F dX8_part_90 rfl ?_
                  refine jr_iald F dX8_part_91 (Nat.le_of_ble_eq_true rfl) rfl (by omega) (fun q91 => ?_) (by omega) (by omega)
                  refine jr_ti (b := (spn w 1 9 (blB w 1 9) (-1) i 0)) ((h67.2.1.2 i (by omega) (by omega)).1) ?_
                  have y21 : w67 21 i = spn w 1 9 (blB w 1 9) (-1) i 0 := (h67.2.1.2 i (by omega) (by omega)).1
                  refine jr_icmp_ne (tgt := 110) F dX8_part_92 (by decide) (fun c92 => ?_) (fun c92 => ?_) (by omega) (by omega)
                  · skip
                    refine jr_iload_n F dX8_part_110 rfl ?_
                    exact jr_iret F dX8_part_111 (pE_of ⟨by unfold parw; rw [hz, show (w 1 3 - i).toNat = (w 1 3 - (i + 1)).toNat + 1 by omega, fuP_y (by unfold paP; omega)], S67⟩)
                  · skip
                    refine jr_aload_n F dX8_part_95 rfl ?_
                    refine jr_getR (t := 24) F dX8_part_96 fg_X8_81 (Nat.le_of_ble_eq_true rfl) rfl rfl ?_
                    refine jr_iload_n F dX8_part_99 rfl ?_
                    refine jr_iald F dX8_part_100 (Nat.le_of_ble_eq_true rfl) rfl (by omega) (fun q100 => ?_) (by omega) (by omega)
                    refine jr_ti (b := (spn w 0 9 (blB w 0 9) (-1) i 1)) (by rw [z24]; exact (hk i (by omega) (by omega)).2) ?_
                    have y24 : w67 24 i = spn w 0 9 (blB w 0 9) (-1) i 1 := by rw [z24]; exact (hk i (by omega) (by omega)).2
                    refine jr_aload_n F dX8_part_101 rfl ?_
                    refine jr_getR (t := 22) F dX8_part_102 fg_X8_75 (Nat.le_of_ble_eq_true rfl) rfl rfl ?_
                    refine jr_iload_n F dX8_part_105 rfl ?_
                    refine jr_iald F dX8_part_106 (Nat.le_of_ble_eq_true rfl) rfl (by omega) (fun q106 => ?_) (by omega) (by omega)
                    refine jr_ti (b := (spn w 1 9 (blB w 1 9) (-1) i 1)) ((h67.2.1.2 i (by omega) (by omega)).2) ?_
                    have y22 : w67 22 i = spn w 1 9 (blB w 1 9) (-1) i 1 := (h67.2.1.2 i (by omega) (by omega)).2
                    refine jr_icmp_eq (tgt := 112) F dX8_part_107 (by decide) (fun c107 => ?_) (fun c107 => ?_) (by omega) (by omega)
                    · skip
                      refine jr_iinc F dX8_part_112 rfl (Nat.le_of_ble_eq_true rfl) rfl ?_
                      refine jr_goto (tgt := 72) F dX8_part_115 (by decide) ?_
                      exact jr_sub (ih72 (i + 1) (by omega) (by omega) (by rw [hz, show (w 1 3 - i).toNat = (w 1 3 - (i + 1)).toNat + 1 by omega, fuP_n (fun q => by unfold paP at q; omega)])) ⟨rfl, rfl, trivial⟩
                    · skip
                      refine jr_iload_n F dX8_part_110 rfl ?_
                      exact jr_iret F dX8_part_111 (pE_of ⟨by unfold parw; rw [hz, show (w 1 3 - i).toNat = (w 1 3 - (i + 1)).toNat + 1 by omega, fuP_y (by unfold paP; omega)], S67⟩)
          exact jr_sub (L72 _ 0 (Nat.lt_succ_self _) (by omega) (by rw [Int.sub_zero])) ⟨rfl, rfl, trivial⟩
        · skip
          refine jr_aload_n F dX8_part_25 rfl ?_
          refine jr_getR (t := 23) F dX8_part_26 fg_X8_78 (Nat.le_of_ble_eq_true rfl) rfl rfl ?_
          refine jr_iload_n F dX8_part_29 rfl ?_
          refine jr_aload_n F dX8_part_30 rfl ?_
          refine jr_getR (t := 21) F dX8_part_31 fg_X8_72 (Nat.le_of_ble_eq_true rfl) rfl rfl ?_
          refine jr_iload_n F dX8_part_34 rfl ?_
          refine jr_iald F dX8_part_35 (Nat.le_of_ble_eq_true rfl) rfl (by omega) (fun q35 => ?_) (by omega) (by omega)
          refine jr_ti (b := (spn w 0 9 (blB w 0 9) (-1) i 0)) (by rw [x21]; exact (h12.2.1.2 i (by omega) (by omega)).1) ?_
          have y35 : x 21 i = spn w 0 9 (blB w 0 9) (-1) i 0 := by rw [x21]; exact (h12.2.1.2 i (by omega) (by omega)).1
          rw [y35] at q35
          refine jr_iastx F dX8_part_36 (Nat.le_of_ble_eq_true rfl) rfl (by omega) (fun w36 e36 => ?_) (by omega) (by omega) (by omega)
          refine jr_aload_n F dX8_part_37 rfl ?_
          refine jr_getR (t := 24) F dX8_part_38 fg_X8_81 (Nat.le_of_ble_eq_true rfl) rfl rfl ?_
          refine jr_iload_n F dX8_part_41 rfl ?_
          refine jr_aload_n F dX8_part_42 rfl ?_
          refine jr_getR (t := 22) F dX8_part_43 fg_X8_75 (Nat.le_of_ble_eq_true rfl) rfl rfl ?_
          refine jr_iload_n F dX8_part_46 rfl ?_
          refine jr_iald F dX8_part_47 (Nat.le_of_ble_eq_true rfl) rfl (by omega) (fun q47 => ?_) (by omega) (by omega)
          refine jr_ti (b := (spn w 0 9 (blB w 0 9) (-1) i 1)) (by subst e36; rw [up_cell (by decide), x22]; exact (h12.2.1.2 i (by omega) (by omega)).2) ?_
          have y47 : w36 22 i = spn w 0 9 (blB w 0 9) (-1) i 1 := by subst e36; rw [up_cell (by decide), x22]; exact (h12.2.1.2 i (by omega) (by omega)).2
          rw [y47] at q47
          refine jr_iastx F dX8_part_48 (Nat.le_of_ble_eq_true rfl) rfl (by omega) (fun w48 e48 => ?_) (by omega) (by omega) (by omega)
          refine jr_iinc F dX8_part_49 rfl (Nat.le_of_ble_eq_true rfl) rfl ?_
          refine jr_goto (tgt := 17) F dX8_part_52 (by decide) ?_
          exact jr_sub (ih17 _ (i + 1) (by omega) (by omega) (by subst e48; subst e36; exact sm_up (sm_up hx (by omega) _ _) (by omega) _ _) (by subst e48; subst e36; exact x21) (by subst e48; subst e36; exact x22) (by subst e48; subst e36; exact KPM_s hk)) ⟨rfl, rfl, trivial⟩
  exact jr_sub (L17 _ _ 0 (Nat.lt_succ_self _) (by omega) W12.1 rfl rfl (fun r a b => by omega)) ⟨rfl, rfl, trivial⟩

set_option maxRecDepth 100000 in
set_option maxHeartbeats 4000000 in
theorem c_X8_judge {B : Bs} {w m : Wd} {s : Int} (hM : RM w m) (hI : IM w) (ht : ∀ r : Int, -2000 ≤ td w r ∧ td w r ≤ 2000) (hs : inR s) : Sp (GM B) 4 yX8_judge cX8_judge 5 (Option.some FieldType.int) [.ref (ga (GM B) (0)), iv (s)] m (pE (fun x u => x = jdgw w s ∧ ws m u)) := by
  refine Sp.of (by decide) (Nat.le_of_ble_eq_true rfl) (fun X F => ?_)
  obtain ⟨⟨i1, i2, i3, i4, i5⟩, ⟨i6, i7⟩, i8, i9, i10, ⟨i11, i12⟩, i13⟩ := id hI
  have n10 := i1.1
  have h3 := i1.1
  have n8 := i3.1
  have n6 := i4.1
  show Jw (GM B) X _ 0 [some (.ref (ga (GM B) (0))), some (iv (s))] [] m
  refine jr_iload_n F dX8_judge_0 rfl ?_
  refine jr_sI F dX8_judge_1 cs_X8_160 (c_X8_isSchool (by omega)) rfl (Nat.le_of_ble_eq_true rfl) (Nat.le_of_ble_eq_true rfl) rfl (Nat.le_of_ble_eq_true rfl) ?_
  refine jr_ifne_b (tgt := 10) F dX8_judge_4 (by decide) (fun c4 => ?_) (fun c4 => ?_)
  · skip
    refine jr_iconst F dX8_judge_10 ?_
    refine jr_istore_n F dX8_judge_11 (Nat.le_of_ble_eq_true rfl) rfl ?_
    have L12 : ∀ (fuel : Nat) (u : Wd) (i : Int), (w 1 3 - i).toNat < fuel → (0 ≤ i ∧ i ≤ w 1 3) → (s = 0 ∨ s = 1) → (ws m u) → (fuP (jbR w s) (w 1 3).toNat 0 = fuP (jbR w s) (w 1 3 - i).toNat i) → Jw (GM B) X (pE (fun x u => x = jdgw w s ∧ ws m u)) 12 [some (.ref (ga (GM B) 0)), some (iv s), some (iv i)] [] u := by
      intro fuel
      induction fuel with
      | zero => intro u i hfuel; exact absurd hfuel (Nat.not_lt_zero _)
      | succ fuel ih12 =>
          intro u i hfuel i0 h4 hu hz
          have Mu : RM w u := ws_RM hu hM
          refine jr_iload_n F dX8_judge_12 rfl ?_
          refine jr_aload_n F dX8_judge_13 rfl ?_
          refine jr_getIx F (w 1 3) dX8_judge_14 fg_X8_84 (Nat.le_of_ble_eq_true rfl) rfl rfl ((show u 0 0 = (w 1 3) from rn0 Mu)) (fun q14 => ?_)
          refine jr_icmp_ge (tgt := 95) F dX8_judge_17 (by decide) (fun c17 => ?_) (fun c17 => ?_) (by omega) (by omega)
          · skip
            refine jr_iconst F dX8_judge_95 ?_
            refine jr_istore_n F dX8_judge_96 (Nat.le_of_ble_eq_true rfl) rfl ?_
            have L97 : ∀ (fuel : Nat) (x : Wd) (i : Int), (w 5 3 - i).toNat < fuel → (0 ≤ i ∧ i ≤ w 5 3) → (s = 0 ∨ s = 1) → (ws m x) → (fuP (jbR w s) (w 1 3).toNat 0 = -1) → (fuP (jbT w s) (w 5 3).toNat 0 = fuP (jbT w s) (w 5 3 - i).toNat i) → Jw (GM B) X (pE (fun x u => x = jdgw w s ∧ ws m u)) 97 [some (.ref (ga (GM B) 0)), some (iv s), some (iv i)] [] x := by
              intro fuel
              induction fuel with
              | zero => intro x i hfuel; exact absurd hfuel (Nat.not_lt_zero _)
              | succ fuel ih97 =>
                  intro x i hfuel k0 k4 hx hg hy
                  have Mx : RM w x := ws_RM hx hM
                  refine jr_iload_n F dX8_judge_97 rfl ?_
                  refine jr_aload_n F dX8_judge_98 rfl ?_
                  refine jr_getIx F (w 5 3) dX8_judge_99 fg_X8_122 (Nat.le_of_ble_eq_true rfl) rfl rfl ((show x 0 8 = (w 5 3) from rn8 Mx)) (fun q99 => ?_)
                  refine jr_icmp_ge (tgt := 135) F dX8_judge_102 (by decide) (fun c102 => ?_) (fun c102 => ?_) (by omega) (by omega)
                  · skip
                    refine jr_iconst F dX8_judge_135 ?_
                    exact jr_iret F dX8_judge_136 (pE_of ⟨jdgw_3 k4 hg (by rw [hy, show (w 5 3 - i).toNat = 0 by omega]; rfl), hx⟩)
                  · skip
                    have tt := i3.2 i (by omega) (by omega)
                    have nn := i5 i (by omega) (by omega)
                    refine jr_aload_n F dX8_judge_105 rfl ?_
                    refine jr_iload_n F dX8_judge_106 rfl ?_
                    refine jr_iload_n F dX8_judge_107 rfl ?_
                    refine jr_vE F dX8_judge_108 cv_X8_185 (c_X8_believesOf Mx i11 i12 i13 k4 (by omega) (by omega)) (Nat.le_of_ble_eq_true rfl) rfl rfl rfl rfl (Nat.le_of_ble_eq_true rfl) (Nat.le_of_ble_eq_true rfl) rfl (Nat.le_of_ble_eq_true rfl) (fun r108 w108 h108 => ?_)
                    have M108 : RM w w108 := wk_RM h108.2 Mx
                    have W108 : ws m w108 := ws_t hx (wk_ws h108.2)
                    have bR := blf_R i13 i11 i12 k4 (t := i)
                    rw [h108.1]
                    refine jr_iconst F dX8_judge_111 ?_
                    refine jr_icmp_ne (tgt := 129) F dX8_judge_112 (by decide) (fun c112 => ?_) (fun c112 => ?_) (by omega) (by omega)
                    · skip
                      refine jr_iinc F dX8_judge_129 rfl (Nat.le_of_ble_eq_true rfl) rfl ?_
                      refine jr_goto (tgt := 97) F dX8_judge_132 (by decide) ?_
                      first | exact jr_sub (ih97 _ (i + 1) (by omega) (by omega) k4 W108 hg (by rw [hy, show (w 5 3 - i).toNat = (w 5 3 - (i + 1)).toNat + 1 by omega, fuP_n (fun q => c112 q.1)])) ⟨rfl, rfl, rfl, trivial⟩ | exact jr_sub (ih97 _ (i + 1) (by omega) (by omega) k4 W108 hg (by rw [hy, show (w 5 3 - i).toNat = (w 5 3 - (i + 1)).toNat + 1 by omega, fuP_n (fun q => q.2 c120)])) ⟨rfl, rfl, rfl, trivial⟩
                    · skip
                      refine jr_aload_n F dX8_judge_115 rfl ?_
                      refine jr_iload_n F dX8_judge_116 rfl ?_
                      refine jr_vI F dX8_judge_117 cv_X8_246 (c_X8_holdsTold M108 tt.1 (by omega) tt.2.1 (by omega) nn ht) (Nat.le_of_ble_eq_true rfl) rfl rfl rfl rfl (Nat.le_of_ble_eq_true rfl) (Nat.le_of_ble_eq_true rfl) rfl (Nat.le_of_ble_eq_true rfl) ?_
                      refine jr_ifne_b (tgt := 129) F dX8_judge_120 (by decide) (fun c120 => ?_) (fun c120 => ?_)
                      · skip
                        refine jr_iinc F dX8_judge_129 rfl (Nat.le_of_ble_eq_true rfl) rfl ?_
                        refine jr_goto (tgt := 97) F dX8_judge_132 (by decide) ?_
                        first | exact jr_sub (ih97 _ (i + 1) (by omega) (by omega) k4 W108 hg (by rw [hy, show (w 5 3 - i).toNat = (w 5 3 - (i + 1)).toNat + 1 by omega, fuP_n (fun q => c112 q.1)])) ⟨rfl, rfl, rfl, trivial⟩ | exact jr_sub (ih97 _ (i + 1) (by omega) (by omega) k4 W108 hg (by rw [hy, show (w 5 3 - i).toNat = (w 5 3 - (i + 1)).toNat + 1 by omega, fuP_n (fun q => q.2 c120)])) ⟨rfl, rfl, rfl, trivial⟩
                      · skip
                        refine jr_sipush F dX8_judge_123 (by decide) ?_
                        refine jr_iload_n F dX8_judge_126 rfl ?_
                        refine jr_iadd F dX8_judge_127 ?_
                        exact jr_iret F dX8_judge_128 (pE_of ⟨jdgw_2 k4 hg (by rw [hy, show (w 5 3 - i).toNat = (w 5 3 - (i + 1)).toNat + 1 by omega, fuP_y ⟨by omega, c120⟩]) k0.1, W108⟩)
            exact jr_sub (L97 _ _ 0 (Nat.lt_succ_self _) (by omega) h4 hu (by rw [hz, show (w 1 3 - i).toNat = 0 by omega]; rfl) (by rw [Int.sub_zero])) ⟨rfl, rfl, rfl, trivial⟩
          · skip
            have ri := i1.2 i (by omega) (by omega)
            have f3 := ri.1.2.2 3 (by omega) (by omega)
            have t1 := ht i
            have t2 := ht (fa w i 5)
            refine jr_aload_n F dX8_judge_20 rfl ?_
            refine jr_getR (t := 6) F dX8_judge_21 fg_X8_25 (Nat.le_of_ble_eq_true rfl) rfl rfl ?_
            refine jr_iload_n F dX8_judge_24 rfl ?_
            refine jr_iald F dX8_judge_25 (Nat.le_of_ble_eq_true rfl) rfl (by omega) (fun q25 => ?_) (by omega) (by omega)
            have v25 : u 6 (i) = (fa w i 5) := (rmf5 Mu (r := i) (by omega) (by omega))
            rw [v25] at q25
            refine jr_ti v25 ?_
            refine jr_istore_n F dX8_judge_26 (Nat.le_of_ble_eq_true rfl) rfl ?_
            refine jr_aload_n F dX8_judge_27 rfl ?_
            refine jr_getR (t := 2) F dX8_judge_28 fg_X8_13 (Nat.le_of_ble_eq_true rfl) rfl rfl ?_
            refine jr_iload_n F dX8_judge_31 rfl ?_
            refine jr_iald F dX8_judge_32 (Nat.le_of_ble_eq_true rfl) rfl (by omega) (fun q32 => ?_) (by omega) (by omega)
            have v32 : u 2 (i) = (fa w i 1) := (rmf1 Mu (r := i) (by omega) (by omega))
            rw [v32] at q32
            refine jr_ti v32 ?_
            refine jr_iconst F dX8_judge_33 ?_
            refine jr_icmp_ne (tgt := 46) F dX8_judge_34 (by decide) (fun c34 => ?_) (fun c34 => ?_) (by omega) (by omega)
            · skip
              refine jr_iconst F dX8_judge_46 ?_
              refine jr_istore F dX8_judge_47 (Nat.le_of_ble_eq_true rfl) rfl ?_
              refine jr_iload_n F dX8_judge_49 rfl ?_
              refine jr_iconst F dX8_judge_50 ?_
              refine jr_icmp_eq (tgt := 89) F dX8_judge_51 (by decide) (fun c51 => ?_) (fun c51 => ?_) (by omega) (by omega)
              · skip
                refine jr_iinc F dX8_judge_89 rfl (Nat.le_of_ble_eq_true rfl) rfl ?_
                refine jr_goto (tgt := 12) F dX8_judge_92 (by decide) ?_
                first | exact jr_sub (ih12 _ (i + 1) (by omega) (by omega) h4 W59 (by rw [hz, show (w 1 3 - i).toNat = (w 1 3 - (i + 1)).toNat + 1 by omega, fuP_n (fun q => q.2 c81)])) ⟨rfl, rfl, rfl, trivial⟩ | exact jr_sub (ih12 _ (i + 1) (by omega) (by omega) h4 hu (by rw [hz, show (w 1 3 - i).toNat = (w 1 3 - (i + 1)).toNat + 1 by omega, fuP_n (fun q => q.1 c51)])) ⟨rfl, rfl, rfl, trivial⟩
              · skip
                have rp := i1.2 (fa w i 5) (by omega) (by omega)
                have cc := IM_K hI h4 (fa w i 5)
                refine jr_aload_n F dX8_judge_54 rfl ?_
                refine jr_iload_n F dX8_judge_55 rfl ?_
                refine jr_aload_n F dX8_judge_56 rfl ?_
                refine jr_iload_n F dX8_judge_57 rfl ?_
                refine jr_iload_n F dX8_judge_58 rfl ?_
                refine jr_vE F dX8_judge_59 cv_X8_182 (c_X8_countsOf Mu i11 i12 i13 h4 (by omega)) (Nat.le_of_ble_eq_true rfl) rfl rfl rfl rfl (Nat.le_of_ble_eq_true rfl) (Nat.le_of_ble_eq_true rfl) rfl (Nat.le_of_ble_eq_true rfl) (fun r59 w59 h59 => ?_)
                have M59 : RM w w59 := wk_RM h59.2 Mu
                have W59 : ws m w59 := ws_t hu (wk_ws h59.2)
                rw [h59.1]
                refine jr_aload_n F dX8_judge_62 rfl ?_
                refine jr_getR (t := 7) F dX8_judge_63 fg_X8_28 (Nat.le_of_ble_eq_true rfl) rfl rfl ?_
                refine jr_iload_n F dX8_judge_66 rfl ?_
                refine jr_iald F dX8_judge_67 (Nat.le_of_ble_eq_true rfl) rfl (by omega) (fun q67 => ?_) (by omega) (by omega)
                have v67 : w59 7 (i) = (td w i) := (rmt M59 (r := i))
                rw [v67] at q67
                refine jr_ti v67 ?_
                refine jr_iload F dX8_judge_68 rfl ?_
                refine jr_iadd F dX8_judge_70 ?_
                refine jr_aload_n F dX8_judge_71 rfl ?_
                refine jr_getR (t := 7) F dX8_judge_72 fg_X8_28 (Nat.le_of_ble_eq_true rfl) rfl rfl ?_
                refine jr_iload_n F dX8_judge_75 rfl ?_
                refine jr_iald F dX8_judge_76 (Nat.le_of_ble_eq_true rfl) rfl (by omega) (fun q76 => ?_) (by omega) (by omega)
                have v76 : w59 7 ((fa w i 5)) = (td w (fa w i 5)) := (rmt M59 (r := (fa w i 5)))
                rw [v76] at q76
                refine jr_ti v76 ?_
                refine jr_isub F dX8_judge_77 ?_
                refine jr_vI F dX8_judge_78 cv_X8_243 (c_X8_mayLast M59 rp.1 (by omega) (by omega)) (Nat.le_of_ble_eq_true rfl) rfl rfl rfl rfl (Nat.le_of_ble_eq_true rfl) (Nat.le_of_ble_eq_true rfl) rfl (Nat.le_of_ble_eq_true rfl) ?_
                first | rw [show (td w i + fa w i 3 - td w (fa w i 5) = td w i - td w (fa w i 5) + lapw w i) by unfold lapw; rw [if_pos (by omega)]; omega] | rw [show (td w i + 0 - td w (fa w i 5) = td w i - td w (fa w i 5) + lapw w i) by unfold lapw; rw [if_neg (by omega)]; omega]
                refine jr_ifne_b (tgt := 89) F dX8_judge_81 (by decide) (fun c81 => ?_) (fun c81 => ?_)
                · skip
                  refine jr_iinc F dX8_judge_89 rfl (Nat.le_of_ble_eq_true rfl) rfl ?_
                  refine jr_goto (tgt := 12) F dX8_judge_92 (by decide) ?_
                  first | exact jr_sub (ih12 _ (i + 1) (by omega) (by omega) h4 W59 (by rw [hz, show (w 1 3 - i).toNat = (w 1 3 - (i + 1)).toNat + 1 by omega, fuP_n (fun q => q.2 c81)])) ⟨rfl, rfl, rfl, trivial⟩ | exact jr_sub (ih12 _ (i + 1) (by omega) (by omega) h4 hu (by rw [hz, show (w 1 3 - i).toNat = (w 1 3 - (i + 1)).toNat + 1 by omega, fuP_n (fun q => q.1 c51)])) ⟨rfl, rfl, rfl, trivial⟩
                · skip
                  refine jr_bipush F dX8_judge_84 (by decide) ?_
                  refine jr_iload_n F dX8_judge_86 rfl ?_
                  refine jr_iadd F dX8_judge_87 ?_
                  exact jr_iret F dX8_judge_88 (pE_of ⟨jdgw_1 h4 (by rw [hz, show (w 1 3 - i).toNat = (w 1 3 - (i + 1)).toNat + 1 by omega, fuP_y ⟨c51, c81⟩]) i0.1, W59⟩)
            · skip
              refine jr_aload_n F dX8_judge_37 rfl ?_
              refine jr_getR (t := 4) F dX8_judge_38 fg_X8_19 (Nat.le_of_ble_eq_true rfl) rfl rfl ?_
              refine jr_iload_n F dX8_judge_41 rfl ?_
              refine jr_iald F dX8_judge_42 (Nat.le_of_ble_eq_true rfl) rfl (by omega) (fun q42 => ?_) (by omega) (by omega)
              have v42 : u 4 (i) = (fa w i 3) := (rmf3 Mu (r := i) (by omega) (by omega))
              rw [v42] at q42
              refine jr_ti v42 ?_
              refine jr_goto (tgt := 47) F dX8_judge_43 (by decide) ?_
              refine jr_istore F dX8_judge_47 (Nat.le_of_ble_eq_true rfl) rfl ?_
              refine jr_iload_n F dX8_judge_49 rfl ?_
              refine jr_iconst F dX8_judge_50 ?_
              refine jr_icmp_eq (tgt := 89) F dX8_judge_51 (by decide) (fun c51 => ?_) (fun c51 => ?_) (by omega) (by omega)
              · skip
                refine jr_iinc F dX8_judge_89 rfl (Nat.le_of_ble_eq_true rfl) rfl ?_
                refine jr_goto (tgt := 12) F dX8_judge_92 (by decide) ?_
                first | exact jr_sub (ih12 _ (i + 1) (by omega) (by omega) h4 W59 (by rw [hz, show (w 1 3 - i).toNat = (w 1 3 - (i + 1)).toNat + 1 by omega, fuP_n (fun q => q.2 c81)])) ⟨rfl, rfl, rfl, trivial⟩ | exact jr_sub (ih12 _ (i + 1) (by omega) (by omega) h4 hu (by rw [hz, show (w 1 3 - i).toNat = (w 1 3 - (i + 1)).toNat + 1 by omega, fuP_n (fun q => q.1 c51)])) ⟨rfl, rfl, rfl, trivial⟩
              · skip
                have rp := i1.2 (fa w i 5) (by omega) (by omega)
                have cc := IM_K hI h4 (fa w i 5)
                refine jr_aload_n F dX8_judge_54 rfl ?_
                refine jr_iload_n F dX8_judge_55 rfl ?_
                refine jr_aload_n F dX8_judge_56 rfl ?_
                refine jr_iload_n F dX8_judge_57 rfl ?_
                refine jr_iload_n F dX8_judge_58 rfl ?_
                refine jr_vE F dX8_judge_59 cv_X8_182 (c_X8_countsOf Mu i11 i12 i13 h4 (by omega)) (Nat.le_of_ble_eq_true rfl) rfl rfl rfl rfl (Nat.le_of_ble_eq_true rfl) (Nat.le_of_ble_eq_true rfl) rfl (Nat.le_of_ble_eq_true rfl) (fun r59 w59 h59 => ?_)
                have M59 : RM w w59 := wk_RM h59.2 Mu
                have W59 : ws m w59 := ws_t hu (wk_ws h59.2)
                rw [h59.1]
                refine jr_aload_n F dX8_judge_62 rfl ?_
                refine jr_getR (t := 7) F dX8_judge_63 fg_X8_28 (Nat.le_of_ble_eq_true rfl) rfl rfl ?_
                refine jr_iload_n F dX8_judge_66 rfl ?_
                refine jr_iald F dX8_judge_67 (Nat.le_of_ble_eq_true rfl) rfl (by omega) (fun q67 => ?_) (by omega) (by omega)
                have v67 : w59 7 (i) = (td w i) := (rmt M59 (r := i))
                rw [v67] at q67
                refine jr_ti v67 ?_
                refine jr_iload F dX8_judge_68 rfl ?_
                refine jr_iadd F dX8_judge_70 ?_
                refine jr_aload_n F dX8_judge_71 rfl ?_
                refine jr_getR (t := 7) F dX8_judge_72 fg_X8_28 (Nat.le_of_ble_eq_true rfl) rfl rfl ?_
                refine jr_iload_n F dX8_judge_75 rfl ?_
                refine jr_iald F dX8_judge_76 (Nat.le_of_ble_eq_true rfl) rfl (by omega) (fun q76 => ?_) (by omega) (by omega)
                have v76 : w59 7 ((fa w i 5)) = (td w (fa w i 5)) := (rmt M59 (r := (fa w i 5)))
                rw [v76] at q76
                refine jr_ti v76 ?_
                refine jr_isub F dX8_judge_77 ?_
                refine jr_vI F dX8_judge_78 cv_X8_243 (c_X8_mayLast M59 rp.1 (by omega) (by omega)) (Nat.le_of_ble_eq_true rfl) rfl rfl rfl rfl (Nat.le_of_ble_eq_true rfl) (Nat.le_of_ble_eq_true rfl) rfl (Nat.le_of_ble_eq_true rfl) ?_
                first | rw [show (td w i + fa w i 3 - td w (fa w i 5) = td w i - td w (fa w i 5) + lapw w i) by unfold lapw; rw [if_pos (by omega)]; omega] | rw [show (td w i + 0 - td w (fa w i 5) = td w i - td w (fa w i 5) + lapw w i) by unfold lapw; rw [if_neg (by omega)]; omega]
                refine jr_ifne_b (tgt := 89) F dX8_judge_81 (by decide) (fun c81 => ?_) (fun c81 => ?_)
                · skip
                  refine jr_iinc F dX8_judge_89 rfl (Nat.le_of_ble_eq_true rfl) rfl ?_
                  refine jr_goto (tgt := 12) F dX8_judge_92 (by decide) ?_
                  first | exact jr_sub (ih12 _ (i + 1) (by omega) (by omega) h4 W59 (by rw [hz, show (w 1 3 - i).toNat = (w 1 3 - (i + 1)).toNat + 1 by omega, fuP_n (fun q => q.2 c81)])) ⟨rfl, rfl, rfl, trivial⟩ | exact jr_sub (ih12 _ (i + 1) (by omega) (by omega) h4 hu (by rw [hz, show (w 1 3 - i).toNat = (w 1 3 - (i + 1)).toNat + 1 by omega, fuP_n (fun q => q.1 c51)])) ⟨rfl, rfl, rfl, trivial⟩
                · skip
                  refine jr_bipush F dX8_judge_84 (by decide) ?_
                  refine jr_iload_n F dX8_judge_86 rfl ?_
                  refine jr_iadd F dX8_judge_87 ?_
                  exact jr_iret F dX8_judge_88 (pE_of ⟨jdgw_1 h4 (by rw [hz, show (w 1 3 - i).toNat = (w 1 3 - (i + 1)).toNat + 1 by omega, fuP_y ⟨c51, c81⟩]) i0.1, W59⟩)
    exact jr_sub (L12 _ _ 0 (Nat.lt_succ_self _) (by omega) c4 (ws_r m) (by rw [Int.sub_zero])) ⟨rfl, rfl, rfl, trivial⟩
  · skip
    refine jr_bipush F dX8_judge_7 (by decide) ?_
    exact jr_iret F dX8_judge_9 (pE_of ⟨by unfold jdgw; rw [if_neg c4], ws_r m⟩)

