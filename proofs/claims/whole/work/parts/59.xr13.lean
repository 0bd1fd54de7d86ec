theorem blB_in {w : Wd} {s e t : Int} (t0 : 0 ≤ t) : inb (blB w s e) t ↔ t < w 5 3 ∧ blS w s e t := by unfold inb blB; exact bsI_bit t0
theorem KB_b {w : Wd} (s e : Int) : KB w e (blB w s e) (-1) := by
  refine ⟨fun t t0 t1 hb => ?_, fun q => absurd rfl q⟩
  have y := ((blB_in t0).mp hb).2.1
  refine ⟨y.2.1.2.2, fun q => ?_⟩
  rcases y.2.2 with z | z
  · omega
  · exact z.2.2
theorem KB_s {w : Wd} {e b b' wi : Int} (h : ∀ t : Int, 0 ≤ t → inb b' t → inb b t) (k : KB w e b wi) : KB w e b' wi := ⟨fun t t0 t1 hb => k.1 t t0 t1 (h t t0 hb), k.2⟩
theorem KB_d {w : Wd} {e b : Int} (x : Int) (k : KB w e b (-1)) : KB w e (dfb b x) (-1) := KB_s (fun t _ q => (dfb_in.mp q).1) k
theorem LQ_s {w : Wd} {s e b b' wi : Int} (h : ∀ t : Int, 0 ≤ t → inb b' t → inb b t) {v : Int → Int} (q : LQ w s e b wi v) : LQ w s e b' wi v := by
  obtain ⟨⟨⟨a, c⟩, d⟩, f, g⟩ := q
  exact ⟨⟨⟨a, fun t t0 t1 hb => c t t0 t1 (h t t0 hb)⟩, d⟩, f, fun t t0 t1 hb hs => g t t0 t1 (h t t0 hb) hs⟩
theorem hasL_d {w : Wd} {s e b : Int} (x : Int) (q : hasL w s e b (-1)) : hasL w s e (dfb b x) (-1) := by
  obtain ⟨v, q⟩ := q
  exact ⟨v, LQ_s (fun t _ y => (dfb_in.mp y).1) q⟩
theorem bsI_no {P : Int → Prop} {n : Int} (h : ∀ k : Int, 0 ≤ k → k < n → ¬ P k) : bsI P n = 0 := by
  have a : 0 ≤ bsI P n := by unfold bsI; omega
  refine inb_e a (by omega) (fun k k0 => ?_)
  unfold inb
  rw [bsI_bit k0]
  exact ⟨fun q => absurd q.2 (h k k0 q.1), fun q => absurd q (in_0 (k := k))⟩
theorem refq_s {s e : Int} (h : ¬ (s = 0 ∨ s = 1)) : refq s e = -101 := by unfold refq; rw [if_neg h]
theorem refq_e {s e : Int} (hs : s = 0 ∨ s = 1) (h : ¬ (0 ≤ e ∧ e ≤ 9)) : refq s e = -102 := by unfold refq; rw [if_pos hs, if_neg h]
noncomputable def opq (w : Wd) (s e b wi : Int) : Int := @ite _ (hasL w s e b wi) (Classical.propDecidable _) (opn w s e b wi (w 1 3).toNat) (-1)
theorem opn_s {w : Wd} {s e b wi i : Int} (i0 : 0 ≤ i) : opn w s e b wi (i + 1).toNat = opn w s e b wi i.toNat + (spn w s e b wi i 1 - spn w s e b wi i 0) := by rw [show (i + 1).toNat = i.toNat + 1 by omega, opn, Int.toNat_of_nonneg i0]
theorem SV_R {B : Bs} {w u : Wd} {s e b wi r side : Int} (hO : okW (GM B) u) (h : SVS w u s e b wi) (hn : w 1 3 ≤ 10) (hr : 0 ≤ r ∧ r < w 1 3) (hs : 0 ≤ side ∧ side ≤ 1) : inR (spn w s e b wi r side) := by
  have a : inR (u 21 r) := hO.1 21 0 10 rfl r hr.1 (by omega)
  have c : inR (u 22 r) := hO.1 22 0 10 rfl r hr.1 (by omega)
  rw [(h.1.2 r hr.1 hr.2).1] at a
  rw [(h.1.2 r hr.1 hr.2).2] at c
  rcases (show side = 0 ∨ side = 1 by omega) with q | q
  · rw [q]; exact a
  · rw [q]; exact c
theorem spn_n {w : Wd} {s e b wi r side : Int} (h : ¬ knw w r e) : spn w s e b wi r side = -9999 := by unfold spn; rw [if_neg (fun q => h q.2)]

set_option maxRecDepth 100000 in
set_option maxHeartbeats 4000000 in
theorem c_X8_can {B : Bs} {w m : Wd} {s e : Int} (hM : RM w m) (hI : IM w) (hs : inR s) (he : inR e) : Sp (GM B) 5 yX8_can cX8_can 3 (Option.some FieldType.int) [.ref (ga (GM B) (0)), iv (s), iv (e)] m (pE (fun x u => x = canw w s e ∧ ws m u)) := by
  refine Sp.of (by decide) (Nat.le_of_ble_eq_true rfl) (fun X F => ?_)
  obtain ⟨⟨i1, i2, i3, i4, i5⟩, ⟨i6, i7⟩, i8, i9, i10, ⟨i11, i12⟩, i13⟩ := id hI
  have n10 := i1.1
  have h3 := i1.1
  have n8 := i3.1
  have n6 := i4.1
  show Jw (GM B) X _ 0 [some (.ref (ga (GM B) (0))), some (iv (s)), some (iv (e))] [] m
  refine jr_iload_n F dX8_can_0 rfl ?_
  refine jr_sI F dX8_can_1 cs_X8_160 (c_X8_isSchool (by omega)) rfl (Nat.le_of_ble_eq_true rfl) (Nat.le_of_ble_eq_true rfl) rfl (Nat.le_of_ble_eq_true rfl) ?_
  refine jr_ifne_b (tgt := 10) F dX8_can_4 (by decide) (fun c4 => ?_) (fun c4 => ?_)
  · skip
    refine jr_iload_n F dX8_can_10 rfl ?_
    refine jr_sI F dX8_can_11 cs_X8_92 (c_X8_isEdition (by omega)) rfl (Nat.le_of_ble_eq_true rfl) (Nat.le_of_ble_eq_true rfl) rfl (Nat.le_of_ble_eq_true rfl) ?_
    refine jr_ifne_b (tgt := 20) F dX8_can_14 (by decide) (fun c14 => ?_) (fun c14 => ?_)
    · skip
      refine jr_aload_n F dX8_can_20 rfl ?_
      refine jr_iload_n F dX8_can_21 rfl ?_
      refine jr_iload_n F dX8_can_22 rfl ?_
      refine jr_aload_n F dX8_can_23 rfl ?_
      refine jr_iload_n F dX8_can_24 rfl ?_
      refine jr_iload_n F dX8_can_25 rfl ?_
      refine jr_vE F dX8_can_26 cv_X8_219 (c_X8_tiesOf hM i3 i5 n10 i11 i12 i13 c4 (by omega)) (Nat.le_of_ble_eq_true rfl) rfl rfl rfl rfl (Nat.le_of_ble_eq_true rfl) (Nat.le_of_ble_eq_true rfl) rfl (Nat.le_of_ble_eq_true rfl) (fun r26 w26 h26 => ?_)
      have B26 := blB_R i3 s e
      have M26 : RM w w26 := wk_RM h26.2 hM
      have W26 : ws m w26 := wk_ws h26.2
      rw [h26.1]
      refine jr_iconst F dX8_can_29 ?_
      refine jr_vU F dX8_can_30 cv_X8_222 (c_X8_solve M26 hI c4 c14 (by omega) (by omega) (KB_b s e)) (Nat.le_of_ble_eq_true rfl) rfl rfl rfl rfl (Nat.le_of_ble_eq_true rfl) (Nat.le_of_ble_eq_true rfl) rfl (Nat.le_of_ble_eq_true rfl) (fun w30 h30 => ?_)
      have M30 : RM w w30 := ws_RM h30.1 M26
      have W30 : ws m w30 := ws_t W26 h30.1
      refine jr_aload_n F dX8_can_33 rfl ?_
      refine jr_getZx F (bi (hasL w s e (blB w s e) (-1))) dX8_can_34 fg_X8_201 (Nat.le_of_ble_eq_true rfl) rfl rfl h30.2.1.1 (fun q34 => ?_)
      refine jr_ifeq_b (tgt := 44) F dX8_can_37 (by decide) (fun c37 => ?_) (fun c37 => ?_)
      · skip
        refine jr_iconst F dX8_can_44 ?_
        first | exact jr_iret F dX8_can_45 (pE_of ⟨by unfold canw; rw [refq_y c4 c14, if_pos rfl, bi_t c37], W30⟩) | exact jr_iret F dX8_can_45 (pE_of ⟨by unfold canw; rw [refq_y c4 c14, if_pos rfl, bi_f c37], W30⟩)
      · skip
        refine jr_iconst F dX8_can_40 ?_
        refine jr_goto (tgt := 45) F dX8_can_41 (by decide) ?_
        first | exact jr_iret F dX8_can_45 (pE_of ⟨by unfold canw; rw [refq_y c4 c14, if_pos rfl, bi_t c37], W30⟩) | exact jr_iret F dX8_can_45 (pE_of ⟨by unfold canw; rw [refq_y c4 c14, if_pos rfl, bi_f c37], W30⟩)
    · skip
      refine jr_bipush F dX8_can_17 (by decide) ?_
      exact jr_iret F dX8_can_19 (pE_of ⟨by unfold canw; rw [refq_e c4 c14, if_neg (by omega)], ws_r m⟩)
  · skip
    refine jr_bipush F dX8_can_7 (by decide) ?_
    exact jr_iret F dX8_can_9 (pE_of ⟨by unfold canw; rw [refq_s c4, if_neg (by omega)], ws_r m⟩)

set_option maxRecDepth 100000 in
set_option maxHeartbeats 4000000 in
theorem c_X8_span {B : Bs} {w m : Wd} {s e r side : Int} (hM : RM w m) (hI : IM w) (hs : inR s) (he : inR e) (hr : inR r) (hsd : inR side) : Sp (GM B) 5 yX8_span cX8_span 5 (Option.some FieldType.int) [.ref (ga (GM B) (0)), iv (s), iv (e), iv (r), iv (side)] m (pE (fun x u => x = spaw w s e r side ∧ ws m u)) := by
  refine Sp.of (by decide) (Nat.le_of_ble_eq_true rfl) (fun X F => ?_)
  obtain ⟨⟨i1, i2, i3, i4, i5⟩, ⟨i6, i7⟩, i8, i9, i10, ⟨i11, i12⟩, i13⟩ := id hI
  have n10 := i1.1
  have h3 := i1.1
  have n8 := i3.1
  have n6 := i4.1
  show Jw (GM B) X _ 0 [some (.ref (ga (GM B) (0))), some (iv (s)), some (iv (e)), some (iv (r)), some (iv (side))] [] m
  refine jr_iload_n F dX8_span_0 rfl ?_
  refine jr_sI F dX8_span_1 cs_X8_160 (c_X8_isSchool (by omega)) rfl (Nat.le_of_ble_eq_true rfl) (Nat.le_of_ble_eq_true rfl) rfl (Nat.le_of_ble_eq_true rfl) ?_
  refine jr_ifne_b (tgt := 11) F dX8_span_4 (by decide) (fun c4 => ?_) (fun c4 => ?_)
  · skip
    refine jr_iload_n F dX8_span_11 rfl ?_
    refine jr_sI F dX8_span_12 cs_X8_92 (c_X8_isEdition (by omega)) rfl (Nat.le_of_ble_eq_true rfl) (Nat.le_of_ble_eq_true rfl) rfl (Nat.le_of_ble_eq_true rfl) ?_
    refine jr_ifne_b (tgt := 22) F dX8_span_15 (by decide) (fun c15 => ?_) (fun c15 => ?_)
    · skip
      refine jr_aload_n F dX8_span_22 rfl ?_
      refine jr_iload_n F dX8_span_23 rfl ?_
      refine jr_vI F dX8_span_24 cv_X8_103 (c_X8_isReign hM h3 (by omega)) (Nat.le_of_ble_eq_true rfl) rfl rfl rfl rfl (Nat.le_of_ble_eq_true rfl) (Nat.le_of_ble_eq_true rfl) rfl (Nat.le_of_ble_eq_true rfl) ?_
      refine jr_ifne_b (tgt := 34) F dX8_span_27 (by decide) (fun c27 => ?_) (fun c27 => ?_)
      · skip
        refine jr_iload F dX8_span_34 rfl ?_
        refine jr_iconst F dX8_span_36 ?_
        refine jr_iconst F dX8_span_37 ?_
        refine jr_sI F dX8_span_38 cs_X8_88 (c_X8_lies (by omega) (by omega) (by omega)) rfl (Nat.le_of_ble_eq_true rfl) (Nat.le_of_ble_eq_true rfl) rfl (Nat.le_of_ble_eq_true rfl) ?_
        refine jr_ifne_b (tgt := 48) F dX8_span_41 (by decide) (fun c41 => ?_) (fun c41 => ?_)
        · skip
          refine jr_aload_n F dX8_span_48 rfl ?_
          refine jr_iload_n F dX8_span_49 rfl ?_
          refine jr_iload_n F dX8_span_50 rfl ?_
          refine jr_aload_n F dX8_span_51 rfl ?_
          refine jr_iload_n F dX8_span_52 rfl ?_
          refine jr_iload_n F dX8_span_53 rfl ?_
          refine jr_vE F dX8_span_54 cv_X8_219 (c_X8_tiesOf hM i3 i5 n10 i11 i12 i13 c4 (by omega)) (Nat.le_of_ble_eq_true rfl) rfl rfl rfl rfl (Nat.le_of_ble_eq_true rfl) (Nat.le_of_ble_eq_true rfl) rfl (Nat.le_of_ble_eq_true rfl) (fun r54 w54 h54 => ?_)
          have B54 := blB_R i3 s e
          have M54 : RM w w54 := wk_RM h54.2 hM
          have W54 : ws m w54 := wk_ws h54.2
          rw [h54.1]
          refine jr_iconst F dX8_span_57 ?_
          refine jr_vU F dX8_span_58 cv_X8_222 (c_X8_solve M54 hI c4 c15 (by omega) (by omega) (KB_b s e)) (Nat.le_of_ble_eq_true rfl) rfl rfl rfl rfl (Nat.le_of_ble_eq_true rfl) (Nat.le_of_ble_eq_true rfl) rfl (Nat.le_of_ble_eq_true rfl) (fun w58 h58 => ?_)
          have M58 : RM w w58 := ws_RM h58.1 M54
          have W58 : ws m w58 := ws_t W54 h58.1
          refine jr_iload F dX8_span_61 rfl ?_
          refine jr_if_ne (tgt := 75) F dX8_span_63 (by decide) (fun c63 => ?_) (fun c63 => ?_) (by omega)
          · skip
            refine jr_aload_n F dX8_span_75 rfl ?_
            refine jr_getR (t := 22) F dX8_span_76 fg_X8_75 (Nat.le_of_ble_eq_true rfl) rfl rfl ?_
            refine jr_iload_n F dX8_span_79 rfl ?_
            refine jr_iald F dX8_span_80 (Nat.le_of_ble_eq_true rfl) rfl (by omega) (fun q80 => ?_) (by omega) (by omega)
            refine jr_ti (b := (spn w s e (blB w s e) (-1) r 1)) ((h58.2.1.2 r (by omega) (by omega)).2) ?_
            first | exact jr_iret F dX8_span_81 (pE_of ⟨by unfold spaw; rw [refq_y c4 c15, if_pos rfl, if_neg (fun z => z c27), if_neg (fun z => z c41), show side = 0 by omega], W58⟩) | exact jr_iret F dX8_span_81 (pE_of ⟨by unfold spaw; rw [refq_y c4 c15, if_pos rfl, if_neg (fun z => z c27), if_neg (fun z => z c41), show side = 1 by omega], W58⟩)
          · skip
            refine jr_aload_n F dX8_span_66 rfl ?_
            refine jr_getR (t := 21) F dX8_span_67 fg_X8_72 (Nat.le_of_ble_eq_true rfl) rfl rfl ?_
            refine jr_iload_n F dX8_span_70 rfl ?_
            refine jr_iald F dX8_span_71 (Nat.le_of_ble_eq_true rfl) rfl (by omega) (fun q71 => ?_) (by omega) (by omega)
            refine jr_ti (b := (spn w s e (blB w s e) (-1) r 0)) ((h58.2.1.2 r (by omega) (by omega)).1) ?_
            refine jr_goto (tgt := 81) F dX8_span_72 (by decide) ?_
            first | exact jr_iret F dX8_span_81 (pE_of ⟨by unfold spaw; rw [refq_y c4 c15, if_pos rfl, if_neg (fun z => z c27), if_neg (fun z => z c41), show side = 0 by omega], W58⟩) | exact jr_iret F dX8_span_81 (pE_of ⟨by unfold spaw; rw [refq_y c4 c15, if_pos rfl, if_neg (fun z => z c27), if_neg (fun z => z c41), show side = 1 by omega], W58⟩)
        · skip
          refine jr_sipush F dX8_span_44 (by decide) ?_
          exact jr_iret F dX8_span_47 (pE_of ⟨by unfold spaw; rw [refq_y c4 c15, if_pos rfl, if_neg (fun z => z c27), if_pos c41], ws_r m⟩)
      · skip
        refine jr_sipush F dX8_span_30 (by decide) ?_
        exact jr_iret F dX8_span_33 (pE_of ⟨by unfold spaw; rw [refq_y c4 c15, if_pos rfl, if_pos c27], ws_r m⟩)
    · skip
      refine jr_sipush F dX8_span_18 (by decide) ?_
      exact jr_iret F dX8_span_21 (pE_of ⟨by unfold spaw; rw [refq_e c4 c15, if_neg (by omega), if_neg (by omega)], ws_r m⟩)
  · skip
    refine jr_sipush F dX8_span_7 (by decide) ?_
    exact jr_iret F dX8_span_10 (pE_of ⟨by unfold spaw; rw [refq_s c4, if_neg (by omega), if_pos rfl], ws_r m⟩)

set_option maxRecDepth 100000 in
set_option maxHeartbeats 4000000 in
theorem c_X8_openNow {B : Bs} {w m : Wd} {s e b wi : Int} (hM : RM w m) (h3 : 0 ≤ w 1 3 ∧ w 1 3 ≤ 10) (he : inR e) (hS : SVS w m s e b wi) : Sp (GM B) 1 yX8_openNow cX8_openNow 4 (Option.some FieldType.int) [.ref (ga (GM B) (0)), iv (e)] m (pI m (opq w s e b wi)) := by
  refine Sp.of (by decide) (Nat.le_of_ble_eq_true rfl) (fun X F => ?_)
  show Jw (GM B) X _ 0 [some (.ref (ga (GM B) (0))), some (iv (e))] [] m
  refine jr_iconst F dX8_openNow_0 ?_
  refine jr_istore_n F dX8_openNow_1 (Nat.le_of_ble_eq_true rfl) rfl ?_
  refine jr_iconst F dX8_openNow_2 ?_
  refine jr_istore_n F dX8_openNow_3 (Nat.le_of_ble_eq_true rfl) rfl ?_
  have L4 : ∀ (fuel : Nat) (i : Int) (z : Int), (w 1 3 - i).toNat < fuel → (0 ≤ i) → (i ≤ w 1 3) → (z = opn w s e b wi i.toNat) → Jw (GM B) X (pI m (opq w s e b wi)) 4 [some (.ref (ga (GM B) 0)), some (iv e), some (iv z), some (iv i)] [] m := by
    intro fuel
    induction fuel with
    | zero => intro i z hfuel; exact absurd hfuel (Nat.not_lt_zero _)
    | succ fuel ih4 =>
        intro i z hfuel i0 i1 hz
        refine jr_iload_n F dX8_openNow_4 rfl ?_
        refine jr_aload_n F dX8_openNow_5 rfl ?_
        refine jr_getIx F (w 1 3) dX8_openNow_6 fg_X8_84 (Nat.le_of_ble_eq_true rfl) rfl rfl ((show m 0 0 = (w 1 3) from rn0 hM)) (fun q6 => ?_)
        refine jr_icmp_ge (tgt := 47) F dX8_openNow_9 (by decide) (fun c9 => ?_) (fun c9 => ?_) (by omega) (by omega)
        · skip
          refine jr_aload_n F dX8_openNow_47 rfl ?_
          refine jr_getZx F (bi (hasL w s e b wi)) dX8_openNow_48 fg_X8_201 (Nat.le_of_ble_eq_true rfl) rfl rfl hS.1.1 (fun q48 => ?_)
          refine jr_ifeq_b (tgt := 58) F dX8_openNow_51 (by decide) (fun c51 => ?_) (fun c51 => ?_)
          · skip
            refine jr_iconst F dX8_openNow_58 ?_
            first | exact jr_iret F dX8_openNow_59 (pI_of (by unfold opq; rw [if_pos c51, hz, show i = w 1 3 by omega]) rfl) | exact jr_iret F dX8_openNow_59 (pI_of (by unfold opq; rw [if_neg c51]) rfl)
          · skip
            refine jr_iload_n F dX8_openNow_54 rfl ?_
            refine jr_goto (tgt := 59) F dX8_openNow_55 (by decide) ?_
            first | exact jr_iret F dX8_openNow_59 (pI_of (by unfold opq; rw [if_pos c51, hz, show i = w 1 3 by omega]) rfl) | exact jr_iret F dX8_openNow_59 (pI_of (by unfold opq; rw [if_neg c51]) rfl)
        · skip
          refine jr_iload_n F dX8_openNow_12 rfl ?_
          refine jr_aload_n F dX8_openNow_13 rfl ?_
          refine jr_iload_n F dX8_openNow_14 rfl ?_
          refine jr_iload_n F dX8_openNow_15 rfl ?_
          refine jr_vI F dX8_openNow_16 cv_X8_188 (c_X8_isKnown (by assumption) (by omega) (by omega)) (Nat.le_of_ble_eq_true rfl) rfl rfl rfl rfl (Nat.le_of_ble_eq_true rfl) (Nat.le_of_ble_eq_true rfl) rfl (Nat.le_of_ble_eq_true rfl) ?_
          refine jr_ifeq_b (tgt := 38) F dX8_openNow_19 (by decide) (fun c19 => ?_) (fun c19 => ?_)
          · skip
            refine jr_iconst F dX8_openNow_38 ?_
            refine jr_iadd F dX8_openNow_39 ?_
            refine jr_istore_n F dX8_openNow_40 (Nat.le_of_ble_eq_true rfl) rfl ?_
            refine jr_iinc F dX8_openNow_41 rfl (Nat.le_of_ble_eq_true rfl) rfl ?_
            refine jr_goto (tgt := 4) F dX8_openNow_44 (by decide) ?_
            exact jr_sub (ih4 (i + 1) _ (by omega) (by omega) (by omega) (by first | (rw [opn_s i0, spn_n (fun q => c19 q.2.2), spn_n (fun q => c19 q.2.2), hz]; omega) | (rw [opn_s i0, hz]))) ⟨rfl, rfl, rfl, rfl, trivial⟩
          · skip
            refine jr_aload_n F dX8_openNow_22 rfl ?_
            refine jr_getR (t := 22) F dX8_openNow_23 fg_X8_75 (Nat.le_of_ble_eq_true rfl) rfl rfl ?_
            refine jr_iload_n F dX8_openNow_26 rfl ?_
            refine jr_iald F dX8_openNow_27 (Nat.le_of_ble_eq_true rfl) rfl (by omega) (fun q27 => ?_) (by omega) (by omega)
            refine jr_ti (b := (spn w s e b wi i 1)) ((hS.1.2 i (by omega) (by omega)).2) ?_
            refine jr_aload_n F dX8_openNow_28 rfl ?_
            refine jr_getR (t := 21) F dX8_openNow_29 fg_X8_72 (Nat.le_of_ble_eq_true rfl) rfl rfl ?_
            refine jr_iload_n F dX8_openNow_32 rfl ?_
            refine jr_iald F dX8_openNow_33 (Nat.le_of_ble_eq_true rfl) rfl (by omega) (fun q33 => ?_) (by omega) (by omega)
            refine jr_ti (b := (spn w s e b wi i 0)) ((hS.1.2 i (by omega) (by omega)).1) ?_
            refine jr_isub F dX8_openNow_34 ?_
            refine jr_goto (tgt := 39) F dX8_openNow_35 (by decide) ?_
            refine jr_iadd F dX8_openNow_39 ?_
            refine jr_istore_n F dX8_openNow_40 (Nat.le_of_ble_eq_true rfl) rfl ?_
            refine jr_iinc F dX8_openNow_41 rfl (Nat.le_of_ble_eq_true rfl) rfl ?_
            refine jr_goto (tgt := 4) F dX8_openNow_44 (by decide) ?_
            exact jr_sub (ih4 (i + 1) _ (by omega) (by omega) (by omega) (by first | (rw [opn_s i0, spn_n (fun q => c19 q.2.2), spn_n (fun q => c19 q.2.2), hz]; omega) | (rw [opn_s i0, hz]))) ⟨rfl, rfl, rfl, rfl, trivial⟩
  exact jr_sub (L4 _ 0 0 (Nat.lt_succ_self _) (by omega) (by omega) rfl) ⟨rfl, rfl, rfl, rfl, trivial⟩

set_option maxRecDepth 100000 in
set_option maxHeartbeats 4000000 in
theorem c_X8_open {B : Bs} {w m : Wd} {s e : Int} (hM : RM w m) (hI : IM w) (hs : inR s) (he : inR e) : Sp (GM B) 5 yX8_open cX8_open 3 (Option.some FieldType.int) [.ref (ga (GM B) (0)), iv (s), iv (e)] m (pE (fun x u => x = opew w s e ∧ ws m u)) := by
  refine Sp.of (by decide) (Nat.le_of_ble_eq_true rfl) (fun X F => ?_)
  obtain ⟨⟨i1, i2, i3, i4, i5⟩, ⟨i6, i7⟩, i8, i9, i10, ⟨i11, i12⟩, i13⟩ := id hI
  have n10 := i1.1
  have h3 := i1.1
  have n8 := i3.1
  have n6 := i4.1
  show Jw (GM B) X _ 0 [some (.ref (ga (GM B) (0))), some (iv (s)), some (iv (e))] [] m
  refine jr_iload_n F dX8_open_0 rfl ?_
  refine jr_sI F dX8_open_1 cs_X8_160 (c_X8_isSchool (by omega)) rfl (Nat.le_of_ble_eq_true rfl) (Nat.le_of_ble_eq_true rfl) rfl (Nat.le_of_ble_eq_true rfl) ?_
  refine jr_ifne_b (tgt := 10) F dX8_open_4 (by decide) (fun c4 => ?_) (fun c4 => ?_)
  · skip
    refine jr_iload_n F dX8_open_10 rfl ?_
    refine jr_sI F dX8_open_11 cs_X8_92 (c_X8_isEdition (by omega)) rfl (Nat.le_of_ble_eq_true rfl) (Nat.le_of_ble_eq_true rfl) rfl (Nat.le_of_ble_eq_true rfl) ?_
    refine jr_ifne_b (tgt := 20) F dX8_open_14 (by decide) (fun c14 => ?_) (fun c14 => ?_)
    · skip
      refine jr_aload_n F dX8_open_20 rfl ?_
      refine jr_iload_n F dX8_open_21 rfl ?_
      refine jr_iload_n F dX8_open_22 rfl ?_
      refine jr_aload_n F dX8_open_23 rfl ?_
      refine jr_iload_n F dX8_open_24 rfl ?_
      refine jr_iload_n F dX8_open_25 rfl ?_
      refine jr_vE F dX8_open_26 cv_X8_219 (c_X8_tiesOf hM i3 i5 n10 i11 i12 i13 c4 (by omega)) (Nat.le_of_ble_eq_true rfl) rfl rfl rfl rfl (Nat.le_of_ble_eq_true rfl) (Nat.le_of_ble_eq_true rfl) rfl (Nat.le_of_ble_eq_true rfl) (fun r26 w26 h26 => ?_)
      have B26 := blB_R i3 s e
      have M26 : RM w w26 := wk_RM h26.2 hM
      have W26 : ws m w26 := wk_ws h26.2
      rw [h26.1]
      refine jr_iconst F dX8_open_29 ?_
      refine jr_vU F dX8_open_30 cv_X8_222 (c_X8_solve M26 hI c4 c14 (by omega) (by omega) (KB_b s e)) (Nat.le_of_ble_eq_true rfl) rfl rfl rfl rfl (Nat.le_of_ble_eq_true rfl) (Nat.le_of_ble_eq_true rfl) rfl (Nat.le_of_ble_eq_true rfl) (fun w30 h30 => ?_)
      have M30 : RM w w30 := ws_RM h30.1 M26
      have W30 : ws m w30 := ws_t W26 h30.1
      refine jr_aload_n F dX8_open_33 rfl ?_
      refine jr_iload_n F dX8_open_34 rfl ?_
      refine jr_vI F dX8_open_35 cv_X8_234 (c_X8_openNow M30 n10 (by omega) h30.2) (Nat.le_of_ble_eq_true rfl) rfl rfl rfl rfl (Nat.le_of_ble_eq_true rfl) (Nat.le_of_ble_eq_true rfl) rfl (Nat.le_of_ble_eq_true rfl) ?_
      exact jr_iret F dX8_open_38 (pE_of ⟨by unfold opew; rw [refq_y c4 c14, if_pos rfl]; rfl, W30⟩)
    · skip
      refine jr_bipush F dX8_open_17 (by decide) ?_
      exact jr_iret F dX8_open_19 (pE_of ⟨by unfold opew; rw [refq_e c4 c14, if_neg (by omega)], ws_r m⟩)
  · skip
    refine jr_bipush F dX8_open_7 (by decide) ?_
    exact jr_iret F dX8_open_9 (pE_of ⟨by unfold opew; rw [refq_s c4, if_neg (by omega)], ws_r m⟩)

set_option maxRecDepth 100000 in
set_option maxHeartbeats 4000000 in
theorem c_X8_held {B : Bs} {w m : Wd} {s e r side : Int} (hM : RM w m) (hI : IM w) (hs : inR s) (he : inR e) (hr : inR r) (hsd : inR side) : Sp (GM B) 5 yX8_held cX8_held 9 (Option.some FieldType.int) [.ref (ga (GM B) (0)), iv (s), iv (e), iv (r), iv (side)] m (pE (fun x u => x = heldw w s e r side ∧ ws m u)) := by
  refine Sp.of (by decide) (Nat.le_of_ble_eq_true rfl) (fun X F => ?_)
  obtain ⟨⟨i1, i2, i3, i4, i5⟩, ⟨i6, i7⟩, i8, i9, i10, ⟨i11, i12⟩, i13⟩ := id hI
  have n10 := i1.1
  have h3 := i1.1
  have n8 := i3.1
  have n6 := i4.1
  show Jw (GM B) X _ 0 [some (.ref (ga (GM B) (0))), some (iv (s)), some (iv (e)), some (iv (r)), some (iv (side))] [] m
  have L107 : ∀ (fuel : Nat) (x : Wd) (i : Int) (z : Int), (w 5 3 - i).toNat < fuel → (0 ≤ i) → (i ≤ w 5 3) → (s = 0 ∨ s = 1) → (0 ≤ e ∧ e ≤ 9) → (0 ≤ r ∧ r < w 1 3) → (0 ≤ side ∧ side ≤ 1) → (hasL w s e (blB w s e) (-1)) → (inR (spn w s e (blB w s e) (-1) r side)) → (ws m x) → (z = bsI (hbP w s e (blB w s e) r side) i) → Jw (GM B) X (pE (fun x u => x = heldw w s e r side ∧ ws m u)) 107 [some (.ref (ga (GM B) 0)), some (iv s), some (iv e), some (iv r), some (iv side), some (iv (blB w s e)), some (iv (spn w s e (blB w s e) (-1) r side)), some (iv z), some (iv i)] [] x := by
    intro fuel
    induction fuel with
    | zero => intro x i z hfuel; exact absurd hfuel (Nat.not_lt_zero _)
    | succ fuel ih107 =>
        intro x i z hfuel i0 i1 k4 k14 k25 k38 k65 kS hx hz
        have Mx : RM w x := ws_RM hx hM
        have Wx := hx
        have zR := bsI_R (hbP w s e (blB w s e) r side) (i := i) 10 (by omega)
        have B47 := blB_R i3 s e
        refine jr_iload F dX8_held_107 rfl ?_
        refine jr_aload_n F dX8_held_109 rfl ?_
        refine jr_getIx F (w 5 3) dX8_held_110 fg_X8_122 (Nat.le_of_ble_eq_true rfl) rfl rfl ((show x 0 8 = (w 5 3) from rn8 Mx)) (fun q110 => ?_)
        refine jr_icmp_ge (tgt := 187) F dX8_held_113 (by decide) (fun c113 => ?_) (fun c113 => ?_) (by omega) (by omega)
        · skip
          refine jr_iload F dX8_held_187 rfl ?_
          exact jr_iret F dX8_held_189 (pE_of ⟨by unfold heldw hldw; rw [refq_y k4 k14, if_pos rfl, if_neg (fun z => z k25), if_neg (fun z => z k38), if_pos k65, hz, show i = w 5 3 by omega], hx⟩)
        · skip
          refine jr_iload F dX8_held_116 rfl ?_
          refine jr_iload F dX8_held_118 rfl ?_
          refine jr_ishr F dX8_held_120 ?_
          refine jr_iconst F dX8_held_121 ?_
          refine jr_iand F dX8_held_122 ?_
          refine jr_top (z := (cb (blB w s e) i)) F (b_bit (by omega) (by omega)) ?_
          have cbR := cb_R (blB w s e) i
          have cb1 : cb (blB w s e) i = 1 ↔ inb (blB w s e) i := bi_eq1
          refine jr_iconst F dX8_held_123 ?_
          refine jr_icmp_ne (tgt := 181) F dX8_held_124 (by decide) (fun c124 => ?_) (fun c124 => ?_) (by omega) (by omega)
          · skip
            refine jr_iinc F dX8_held_181 rfl (Nat.le_of_ble_eq_true rfl) rfl ?_
            refine jr_goto (tgt := 107) F dX8_held_184 (by decide) ?_
            first | exact jr_sub (ih107 _ (i + 1) _ (by omega) (by omega) (by omega) k4 k14 k25 k38 k65 kS W140 rfl) ⟨rfl, rfl, rfl, rfl, rfl, rfl, rfl, rfl, rfl, trivial⟩ | exact jr_sub (ih107 _ (i + 1) _ (by omega) (by omega) (by omega) k4 k14 k25 k38 k65 kS hx (by rw [hz, bsI_f i0 (fun q => c124 (cb1.mpr q.1))])) ⟨rfl, rfl, rfl, rfl, rfl, rfl, rfl, rfl, rfl, trivial⟩
          · skip
            refine jr_aload_n F dX8_held_127 rfl ?_
            refine jr_iload_n F dX8_held_128 rfl ?_
            refine jr_iload_n F dX8_held_129 rfl ?_
            refine jr_iload F dX8_held_130 rfl ?_
            refine jr_iconst F dX8_held_132 ?_
            refine jr_iload F dX8_held_133 rfl ?_
            refine jr_ishl F dX8_held_135 ?_
            refine jr_iconst F dX8_held_136 ?_
            refine jr_ixor F dX8_held_137 ?_
            refine jr_iand F dX8_held_138 ?_
            refine jr_top (z := (dfb (blB w s e) (pw i))) F (b_clb (by omega) (by omega)) ?_
            refine jr_iconst F dX8_held_139 ?_
            refine jr_vU F dX8_held_140 cv_X8_222 (c_X8_solve Mx hI k4 k14 (by have := dfb_le (a := blB w s e) (pw i) (by omega); omega) (by omega) (KB_d _ (KB_b s e))) (Nat.le_of_ble_eq_true rfl) rfl rfl rfl rfl (Nat.le_of_ble_eq_true rfl) (Nat.le_of_ble_eq_true rfl) rfl (Nat.le_of_ble_eq_true rfl) (fun w140 h140 => ?_)
            have M140 : RM w w140 := ws_RM h140.1 Mx
            have W140 : ws m w140 := ws_t Wx h140.1
            refine jr_iload F dX8_held_143 rfl ?_
            refine jr_iload F dX8_held_145 rfl ?_
            refine jr_if_ne (tgt := 159) F dX8_held_147 (by decide) (fun c147 => ?_) (fun c147 => ?_) (by omega)
            · skip
              refine jr_aload_n F dX8_held_159 rfl ?_
              refine jr_getR (t := 22) F dX8_held_160 fg_X8_75 (Nat.le_of_ble_eq_true rfl) rfl rfl ?_
              refine jr_iload_n F dX8_held_163 rfl ?_
              refine jr_iald F dX8_held_164 (Nat.le_of_ble_eq_true rfl) rfl (by omega) (fun q164 => ?_) (by omega) (by omega)
              refine jr_ti (b := (spn w s e (dfb (blB w s e) (pw i)) (-1) r 1)) ((h140.2.1.2 r (by omega) (by omega)).2) ?_
              refine jr_okM (fun hO9 => ?_)
              have k9 := SV_R hO9 h140.2 n10.2 k25 k38
              try rw [show spn w s e (dfb (blB w s e) (pw i)) (-1) r 0 = spn w s e (dfb (blB w s e) (pw i)) (-1) r side by rw [show side = 0 by omega]]
              try rw [show spn w s e (dfb (blB w s e) (pw i)) (-1) r 1 = spn w s e (dfb (blB w s e) (pw i)) (-1) r side by rw [show side = 1 by omega]]
              refine jr_iload F dX8_held_165 rfl ?_
              refine jr_icmp_eq (tgt := 177) F dX8_held_167 (by decide) (fun c167 => ?_) (fun c167 => ?_) (by omega) (by omega)
              · skip
                refine jr_iconst F dX8_held_177 ?_
                refine jr_ior F dX8_held_178 ?_
                refine jr_top (z := bsI (hbP w s e (blB w s e) r side) (i + 1)) F (by rw [hz]; first | exact b_orT i0 (by omega) ⟨cb1.mp (by omega), hasL_d _ k65, c167⟩ | exact b_orF i0 (by omega) (fun q => q.2.2 c167)) ?_
                refine jr_istore F dX8_held_179 (Nat.le_of_ble_eq_true rfl) rfl ?_
                refine jr_iinc F dX8_held_181 rfl (Nat.le_of_ble_eq_true rfl) rfl ?_
                refine jr_goto (tgt := 107) F dX8_held_184 (by decide) ?_
                first | exact jr_sub (ih107 _ (i + 1) _ (by omega) (by omega) (by omega) k4 k14 k25 k38 k65 kS W140 rfl) ⟨rfl, rfl, rfl, rfl, rfl, rfl, rfl, rfl, rfl, trivial⟩ | exact jr_sub (ih107 _ (i + 1) _ (by omega) (by omega) (by omega) k4 k14 k25 k38 k65 kS hx (by rw [hz, bsI_f i0 (fun q => c124 (cb1.mpr q.1))])) ⟨rfl, rfl, rfl, rfl, rfl, rfl, rfl, rfl, rfl, trivial⟩
              · skip
                refine jr_iconst F dX8_held_170 ?_
                refine jr_iload F dX8_held_171 rfl ?_
                refine jr_ishl F dX8_held_173 ?_
                refine jr_goto (tgt := 178) F dX8_held_174 (by decide) ?_
                refine jr_ior F dX8_held_178 ?_
                refine jr_top (z := bsI (hbP w s e (blB w s e) r side) (i + 1)) F (by rw [hz]; first | exact b_orT i0 (by omega) ⟨cb1.mp (by omega), hasL_d _ k65, c167⟩ | exact b_orF i0 (by omega) (fun q => q.2.2 c167)) ?_
                refine jr_istore F dX8_held_179 (Nat.le_of_ble_eq_true rfl) rfl ?_
                refine jr_iinc F dX8_held_181 rfl (Nat.le_of_ble_eq_true rfl) rfl ?_
                refine jr_goto (tgt := 107) F dX8_held_184 (by decide) ?_
                first | exact jr_sub (ih107 _ (i + 1) _ (by omega) (by omega) (by omega) k4 k14 k25 k38 k65 kS W140 rfl) ⟨rfl, rfl, rfl, rfl, rfl, rfl, rfl, rfl, rfl, trivial⟩ | exact jr_sub (ih107 _ (i + 1) _ (by omega) (by omega) (by omega) k4 k14 k25 k38 k65 kS hx (by rw [hz, bsI_f i0 (fun q => c124 (cb1.mpr q.1))])) ⟨rfl, rfl, rfl, rfl, rfl, rfl, rfl, rfl, rfl, trivial⟩
            · skip
              refine jr_aload_n F dX8_held_150 rfl ?_
              refine jr_getR (t := 21) F dX8_held_151 fg_X8_72 (Nat.le_of_ble_eq_true rfl) rfl rfl ?_
              refine jr_iload_n F dX8_held_154 rfl ?_
              refine jr_iald F dX8_held_155 (Nat.le_of_ble_eq_true rfl) rfl (by omega) (fun q155 => ?_) (by omega) (by omega)
              refine jr_ti (b := (spn w s e (dfb (blB w s e) (pw i)) (-1) r 0)) ((h140.2.1.2 r (by omega) (by omega)).1) ?_
              refine jr_goto (tgt := 165) F dX8_held_156 (by decide) ?_
              refine jr_okM (fun hO9 => ?_)
              have k9 := SV_R hO9 h140.2 n10.2 k25 k38
              try rw [show spn w s e (dfb (blB w s e) (pw i)) (-1) r 0 = spn w s e (dfb (blB w s e) (pw i)) (-1) r side by rw [show side = 0 by omega]]
              try rw [show spn w s e (dfb (blB w s e) (pw i)) (-1) r 1 = spn w s e (dfb (blB w s e) (pw i)) (-1) r side by rw [show side = 1 by omega]]
              refine jr_iload F dX8_held_165 rfl ?_
              refine jr_icmp_eq (tgt := 177) F dX8_held_167 (by decide) (fun c167 => ?_) (fun c167 => ?_) (by omega) (by omega)
              · skip
                refine jr_iconst F dX8_held_177 ?_
                refine jr_ior F dX8_held_178 ?_
                refine jr_top (z := bsI (hbP w s e (blB w s e) r side) (i + 1)) F (by rw [hz]; first | exact b_orT i0 (by omega) ⟨cb1.mp (by omega), hasL_d _ k65, c167⟩ | exact b_orF i0 (by omega) (fun q => q.2.2 c167)) ?_
                refine jr_istore F dX8_held_179 (Nat.le_of_ble_eq_true rfl) rfl ?_
                refine jr_iinc F dX8_held_181 rfl (Nat.le_of_ble_eq_true rfl) rfl ?_
                refine jr_goto (tgt := 107) F dX8_held_184 (by decide) ?_
                first | exact jr_sub (ih107 _ (i + 1) _ (by omega) (by omega) (by omega) k4 k14 k25 k38 k65 kS W140 rfl) ⟨rfl, rfl, rfl, rfl, rfl, rfl, rfl, rfl, rfl, trivial⟩ | exact jr_sub (ih107 _ (i + 1) _ (by omega) (by omega) (by omega) k4 k14 k25 k38 k65 kS hx (by rw [hz, bsI_f i0 (fun q => c124 (cb1.mpr q.1))])) ⟨rfl, rfl, rfl, rfl, rfl, rfl, rfl, rfl, rfl, trivial⟩
              · skip
                refine jr_iconst F dX8_held_170 ?_
                refine jr_iload F dX8_held_171 rfl ?_
                refine jr_ishl F dX8_held_173 ?_
                refine jr_goto (tgt := 178) F dX8_held_174 (by decide) ?_
                refine jr_ior F dX8_held_178 ?_
                refine jr_top (z := bsI (hbP w s e (blB w s e) r side) (i + 1)) F (by rw [hz]; first | exact b_orT i0 (by omega) ⟨cb1.mp (by omega), hasL_d _ k65, c167⟩ | exact b_orF i0 (by omega) (fun q => q.2.2 c167)) ?_
                refine jr_istore F dX8_held_179 (Nat.le_of_ble_eq_true rfl) rfl ?_
                refine jr_iinc F dX8_held_181 rfl (Nat.le_of_ble_eq_true rfl) rfl ?_
                refine jr_goto (tgt := 107) F dX8_held_184 (by decide) ?_
                first | exact jr_sub (ih107 _ (i + 1) _ (by omega) (by omega) (by omega) k4 k14 k25 k38 k65 kS W140 rfl) ⟨rfl, rfl, rfl, rfl, rfl, rfl, rfl, rfl, rfl, trivial⟩ | exact jr_sub (ih107 _ (i + 1) _ (by omega) (by omega) (by omega) k4 k14 k25 k38 k65 kS hx (by rw [hz, bsI_f i0 (fun q => c124 (cb1.mpr q.1))])) ⟨rfl, rfl, rfl, rfl, rfl, rfl, rfl, rfl, rfl, trivial⟩
  refine jr_iload_n F dX8_held_0 rfl ?_
  refine jr_sI F dX8_held_1 cs_X8_160 (c_X8_isSchool (by omega)) rfl (Nat.le_of_ble_eq_true rfl) (Nat.le_of_ble_eq_true rfl) rfl (Nat.le_of_ble_eq_true rfl) ?_
  refine jr_ifne_b (tgt := 10) F dX8_held_4 (by decide) (fun c4 => ?_) (fun c4 => ?_)
  · skip
    refine jr_iload_n F dX8_held_10 rfl ?_
    refine jr_sI F dX8_held_11 cs_X8_92 (c_X8_isEdition (by omega)) rfl (Nat.le_of_ble_eq_true rfl) (Nat.le_of_ble_eq_true rfl) rfl (Nat.le_of_ble_eq_true rfl) ?_
    refine jr_ifne_b (tgt := 20) F dX8_held_14 (by decide) (fun c14 => ?_) (fun c14 => ?_)
    · skip
      refine jr_aload_n F dX8_held_20 rfl ?_
      refine jr_iload_n F dX8_held_21 rfl ?_
      refine jr_vI F dX8_held_22 cv_X8_103 (c_X8_isReign hM h3 (by omega)) (Nat.le_of_ble_eq_true rfl) rfl rfl rfl rfl (Nat.le_of_ble_eq_true rfl) (Nat.le_of_ble_eq_true rfl) rfl (Nat.le_of_ble_eq_true rfl) ?_
      refine jr_ifne_b (tgt := 31) F dX8_held_25 (by decide) (fun c25 => ?_) (fun c25 => ?_)
      · skip
        refine jr_iload F dX8_held_31 rfl ?_
        refine jr_iconst F dX8_held_33 ?_
        refine jr_iconst F dX8_held_34 ?_
        refine jr_sI F dX8_held_35 cs_X8_88 (c_X8_lies (by omega) (by omega) (by omega)) rfl (Nat.le_of_ble_eq_true rfl) (Nat.le_of_ble_eq_true rfl) rfl (Nat.le_of_ble_eq_true rfl) ?_
        refine jr_ifne_b (tgt := 44) F dX8_held_38 (by decide) (fun c38 => ?_) (fun c38 => ?_)
        · skip
          refine jr_aload_n F dX8_held_44 rfl ?_
          refine jr_iload_n F dX8_held_45 rfl ?_
          refine jr_iload_n F dX8_held_46 rfl ?_
          refine jr_vE F dX8_held_47 cv_X8_219 (c_X8_tiesOf hM i3 i5 n10 i11 i12 i13 c4 (by omega)) (Nat.le_of_ble_eq_true rfl) rfl rfl rfl rfl (Nat.le_of_ble_eq_true rfl) (Nat.le_of_ble_eq_true rfl) rfl (Nat.le_of_ble_eq_true rfl) (fun r47 w47 h47 => ?_)
          have B47 := blB_R i3 s e
          have M47 : RM w w47 := wk_RM h47.2 hM
          have W47 : ws m w47 := wk_ws h47.2
          rw [h47.1]
          refine jr_istore F dX8_held_50 (Nat.le_of_ble_eq_true rfl) rfl ?_
          refine jr_aload_n F dX8_held_52 rfl ?_
          refine jr_iload_n F dX8_held_53 rfl ?_
          refine jr_iload_n F dX8_held_54 rfl ?_
          refine jr_iload F dX8_held_55 rfl ?_
          refine jr_iconst F dX8_held_57 ?_
          refine jr_vU F dX8_held_58 cv_X8_222 (c_X8_solve M47 hI c4 c14 (by omega) (by omega) (KB_b s e)) (Nat.le_of_ble_eq_true rfl) rfl rfl rfl rfl (Nat.le_of_ble_eq_true rfl) (Nat.le_of_ble_eq_true rfl) rfl (Nat.le_of_ble_eq_true rfl) (fun w58 h58 => ?_)
          have M58 : RM w w58 := ws_RM h58.1 M47
          have W58 : ws m w58 := ws_t W47 h58.1
          refine jr_aload_n F dX8_held_61 rfl ?_
          refine jr_getZx F (bi (hasL w s e (blB w s e) (-1))) dX8_held_62 fg_X8_201 (Nat.le_of_ble_eq_true rfl) rfl rfl h58.2.1.1 (fun q62 => ?_)
          refine jr_ifeq_b (tgt := 77) F dX8_held_65 (by decide) (fun c65 => ?_) (fun c65 => ?_)
          · skip
            refine jr_iconst F dX8_held_77 ?_
            first | exact jr_iret F dX8_held_78 (pE_of ⟨by unfold heldw hldw; rw [refq_y c4 c14, if_pos rfl, if_neg (fun z => z c25), if_neg (fun z => z c38), if_neg c65], W58⟩) | exact jr_iret F dX8_held_78 (pE_of ⟨by unfold heldw hldw; rw [refq_y c4 c14, if_pos rfl, if_neg (fun z => z c25), if_neg (fun z => z c38), if_pos c65, bsI_no (fun k _ _ q => q.2.2 (by rw [spn_n (fun y => c74 y.2.2), spn_n (fun y => c74 y.2.2)]))], W58⟩)
          · skip
            refine jr_aload_n F dX8_held_68 rfl ?_
            refine jr_iload_n F dX8_held_69 rfl ?_
            refine jr_iload_n F dX8_held_70 rfl ?_
            refine jr_vI F dX8_held_71 cv_X8_188 (c_X8_isKnown M58 (by omega) (by omega)) (Nat.le_of_ble_eq_true rfl) rfl rfl rfl rfl (Nat.le_of_ble_eq_true rfl) (Nat.le_of_ble_eq_true rfl) rfl (Nat.le_of_ble_eq_true rfl) ?_
            refine jr_ifne_b (tgt := 79) F dX8_held_74 (by decide) (fun c74 => ?_) (fun c74 => ?_)
            · skip
              refine jr_iload F dX8_held_79 rfl ?_
              refine jr_if_ne (tgt := 93) F dX8_held_81 (by decide) (fun c81 => ?_) (fun c81 => ?_) (by omega)
              · skip
                refine jr_aload_n F dX8_held_93 rfl ?_
                refine jr_getR (t := 22) F dX8_held_94 fg_X8_75 (Nat.le_of_ble_eq_true rfl) rfl rfl ?_
                refine jr_iload_n F dX8_held_97 rfl ?_
                refine jr_iald F dX8_held_98 (Nat.le_of_ble_eq_true rfl) rfl (by omega) (fun q98 => ?_) (by omega) (by omega)
                refine jr_ti (b := (spn w s e (blB w s e) (-1) r 1)) ((h58.2.1.2 r (by omega) (by omega)).2) ?_
                rw [show spn w s e (blB w s e) (-1) r 1 = spn w s e (blB w s e) (-1) r side by rw [show side = 1 by omega]]
                refine jr_istore F dX8_held_99 (Nat.le_of_ble_eq_true rfl) rfl ?_
                refine jr_okM (fun hO58 => ?_)
                have kS := SV_R hO58 h58.2 n10.2 c25 c38
                refine jr_iconst F dX8_held_101 ?_
                refine jr_istore F dX8_held_102 (Nat.le_of_ble_eq_true rfl) rfl ?_
                refine jr_iconst F dX8_held_104 ?_
                refine jr_istore F dX8_held_105 (Nat.le_of_ble_eq_true rfl) rfl ?_
                exact jr_sub (L107 _ _ 0 0 (Nat.lt_succ_self _) (by omega) (by omega) c4 c14 c25 c38 c65 kS W58 rfl) ⟨rfl, rfl, rfl, rfl, rfl, rfl, rfl, rfl, rfl, trivial⟩
              · skip
                refine jr_aload_n F dX8_held_84 rfl ?_
                refine jr_getR (t := 21) F dX8_held_85 fg_X8_72 (Nat.le_of_ble_eq_true rfl) rfl rfl ?_
                refine jr_iload_n F dX8_held_88 rfl ?_
                refine jr_iald F dX8_held_89 (Nat.le_of_ble_eq_true rfl) rfl (by omega) (fun q89 => ?_) (by omega) (by omega)
                refine jr_ti (b := (spn w s e (blB w s e) (-1) r 0)) ((h58.2.1.2 r (by omega) (by omega)).1) ?_
                rw [show spn w s e (blB w s e) (-1) r 0 = spn w s e (blB w s e) (-1) r side by rw [show side = 0 by omega]]
                refine jr_goto (tgt := 99) F dX8_held_90 (by decide) ?_
                refine jr_istore F dX8_held_99 (Nat.le_of_ble_eq_true rfl) rfl ?_
                refine jr_okM (fun hO58 => ?_)
                have kS := SV_R hO58 h58.2 n10.2 c25 c38
                refine jr_iconst F dX8_held_101 ?_
                refine jr_istore F dX8_held_102 (Nat.le_of_ble_eq_true rfl) rfl ?_
                refine jr_iconst F dX8_held_104 ?_
                refine jr_istore F dX8_held_105 (Nat.le_of_ble_eq_true rfl) rfl ?_
                exact jr_sub (L107 _ _ 0 0 (Nat.lt_succ_self _) (by omega) (by omega) c4 c14 c25 c38 c65 kS W58 rfl) ⟨rfl, rfl, rfl, rfl, rfl, rfl, rfl, rfl, rfl, trivial⟩
            · skip
              refine jr_iconst F dX8_held_77 ?_
              first | exact jr_iret F dX8_held_78 (pE_of ⟨by unfold heldw hldw; rw [refq_y c4 c14, if_pos rfl, if_neg (fun z => z c25), if_neg (fun z => z c38), if_neg c65], W58⟩) | exact jr_iret F dX8_held_78 (pE_of ⟨by unfold heldw hldw; rw [refq_y c4 c14, if_pos rfl, if_neg (fun z => z c25), if_neg (fun z => z c38), if_pos c65, bsI_no (fun k _ _ q => q.2.2 (by rw [spn_n (fun y => c74 y.2.2), spn_n (fun y => c74 y.2.2)]))], W58⟩)
        · skip
          refine jr_bipush F dX8_held_41 (by decide) ?_
          exact jr_iret F dX8_held_43 (pE_of ⟨by unfold heldw; rw [refq_y c4 c14, if_pos rfl, if_neg (fun z => z c25), if_pos c38], ws_r m⟩)
      · skip
        refine jr_bipush F dX8_held_28 (by decide) ?_
        exact jr_iret F dX8_held_30 (pE_of ⟨by unfold heldw; rw [refq_y c4 c14, if_pos rfl, if_pos c25], ws_r m⟩)
    · skip
      refine jr_bipush F dX8_held_17 (by decide) ?_
      exact jr_iret F dX8_held_19 (pE_of ⟨by unfold heldw; rw [refq_e c4 c14, if_neg (by omega)], ws_r m⟩)
  · skip
    refine jr_bipush F dX8_held_7 (by decide) ?_
    exact jr_iret F dX8_held_9 (pE_of ⟨by unfold heldw; rw [refq_s c4, if_neg (by omega)], ws_r m⟩)

