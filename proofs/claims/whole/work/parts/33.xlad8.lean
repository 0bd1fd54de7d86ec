def yF (x y : Wd) : Prop := (∀ k, k ≠ 20 → k ≠ 25 → k ≠ 26 → k ≠ 30 → k ≠ 31 → y k = x k) ∧ ∀ i, i ≠ 17 → y 20 i = x 20 i
theorem fdF_y {w x y : Wd} (h : fdF w x) (g : yF x y) : fdF w y := ⟨fun k a b c d e f i => (g.1 k a d e f i).trans (h.1 k a b c d e f i), fun i a b c => (g.2 i c).trans (h.2 i a b c)⟩
theorem SW_le {w : Wd} {C : (Int → Int) → Prop} {fs ss n m : Int} (h : n ≤ m) (v : Int → Int) (q : SW w C fs ss n v) : SW w C fs ss m v := by
  obtain ⟨k, hk, z⟩ := q
  exact ⟨k, by omega, z⟩
theorem mat_c {w u : Wd} {c : Nat} (h : u c = w c) : mat u c = mat w c := by funext a b; unfold mat; rw [h]
theorem Acc_0 {w u : Wd} {al : Int} {S : (Int → Int) → Prop} (h : u 20 17 = 0) (hS : ∀ v, ¬ S v) : Acc w u al S := ⟨Or.inl h, ⟨fun q => by omega, fun ⟨v, q⟩ => absurd q (hS v)⟩, fun _ q => by omega⟩
theorem fdR_no {w u : Wd} {e cn b wi al : Int} (hF : fdF w u) (h0 : u 20 17 = 0) (hn : ¬ ∃ v, Lad w e cn b wi v) : fdR w e cn b wi al u := ⟨hF, by rw [bi_f hn]; exact h0, fun _ q => absurd q hn⟩

set_option maxRecDepth 100000 in
set_option maxHeartbeats 4000000 in
theorem c_X1_find_20 {B : Bs} {w : Wd} {e cn b wi al : Int} (hR : RI w) (hT : TI w) (hK2 : SK2 w) (hW : WI w) (hL : llS w w e cn (w 1 3)) (hb : 0 ≤ b ∧ b ≤ 1000) (hwi : wi = -1 ∨ (0 ≤ wi ∧ wi < w 8 3)) (hal : 0 ≤ al ∧ al ≤ 1) : Sp (GX B) 5 yX1_find cX1_find 5 (Option.some FieldType.boolean) [.ref (ga (GX B) (20)), iv (b), iv (wi), iv (al)] w (pB (∃ v, Lad w e cn b wi v) (fdR w e cn b wi al)) := by
  refine Sp.of (by decide) (Nat.le_of_ble_eq_true rfl) (fun X F => ?_)
  have n10 := hR.1
  have f3 := hL.2.2.2.1
  have pR := p2_R f3
  have fok := FOK_of hR hL.2.2.2
  have nw := hW.1
  show Jw (GX B) X _ 0 [some (.ref (ga (GX B) (20))), some (iv (b)), some (iv (wi)), some (iv (al))] [] w
  have L35 : ∀ (fuel : Nat) (x : Wd) (way : Int), (((2 ^ (w 20 14).toNat : Nat) : Int) - way).toNat < fuel → (0 ≤ way) → (way ≤ ((2 ^ (w 20 14).toNat : Nat) : Int)) → (fdF w x) → (x 23 1 = w 1 3 + 1) → (rep (w 1 3 + 1) (mat x 24) (CW w e cn b wi)) → (skI w b (w 5 3) (x 20 15) (x 20 16)) → (Acc w x al (SW w (CW w e cn b wi) (x 20 15) (x 20 16) way)) → Jw (GX B) X (pB (∃ v, Lad w e cn b wi v) (fdR w e cn b wi al)) 35 [some (.ref (ga (GX B) 20)), some (iv b), some (iv wi), some (iv al), some (iv way)] [] x := by
    intro fuel
    induction fuel with
    | zero => intro x way hfuel; exact absurd hfuel (Nat.not_lt_zero _)
    | succ fuel ih35 =>
        intro x way hfuel k0 k1 hF hN hR4 hK hA
        have x1 : x 1 = w 1 := hF.1 1 (by decide) (by decide) (by decide) (by decide) (by decide) (by decide) (by decide)
        have x2 : x 2 = w 2 := hF.1 2 (by decide) (by decide) (by decide) (by decide) (by decide) (by decide) (by decide)
        have x5 : x 5 = w 5 := hF.1 5 (by decide) (by decide) (by decide) (by decide) (by decide) (by decide) (by decide)
        have x6 : x 6 = w 6 := hF.1 6 (by decide) (by decide) (by decide) (by decide) (by decide) (by decide) (by decide)
        have x7 : x 7 = w 7 := hF.1 7 (by decide) (by decide) (by decide) (by decide) (by decide) (by decide) (by decide)
        have x27 : x 27 = w 27 := hF.1 27 (by decide) (by decide) (by decide) (by decide) (by decide) (by decide) (by decide)
        have x28 : x 28 = w 28 := hF.1 28 (by decide) (by decide) (by decide) (by decide) (by decide) (by decide) (by decide)
        have x29 : x 29 = w 29 := hF.1 29 (by decide) (by decide) (by decide) (by decide) (by decide) (by decide) (by decide)
        have x14 : x 20 14 = w 20 14 := hF.2 14 (by decide) (by decide) (by decide)
        have sk := skO_of hT hK
        refine jr_iload F dX1_find_35 rfl ?_
        refine jr_iconst F dX1_find_37 ?_
        refine jr_aload_n F dX1_find_38 rfl ?_
        refine jr_getIx F (w 20 14) dX1_find_39 fg_X1_61 (Nat.le_of_ble_eq_true rfl) rfl rfl x14 (fun q39 => ?_)
        refine jr_ishl F dX1_find_42 ?_
        refine jr_top (z := ((2 ^ (w 20 14).toNat : Nat) : Int)) F (b_shl1 (by omega)) ?_
        refine jr_icmp_ge (tgt := 90) F dX1_find_43 (by decide) (fun c43 => ?_) (fun c43 => ?_) (by omega) (by omega)
        · skip
          refine jr_aload_n F dX1_find_90 rfl ?_
          refine jr_getZx F (x 20 17) dX1_find_91 fg_X1_70 (Nat.le_of_ble_eq_true rfl) rfl rfl rfl (fun q91 => ?_)
          obtain rfl : way = ((2 ^ (w 20 14).toNat : Nat) : Int) := by omega
          have eL : (∃ v, SW w (CW w e cn b wi) (x 20 15) (x 20 16) ((2 ^ (w 20 14).toNat : Nat) : Int) v) ↔ ∃ v, Lad w e cn b wi v := ⟨fun ⟨v, q⟩ => ⟨v, (SW_Lad hL.2.2.2 hK v).mp q⟩, fun ⟨v, q⟩ => ⟨v, (SW_Lad hL.2.2.2 hK v).mpr q⟩⟩
          have A2 := Acc_c (SW_Lad hL.2.2.2 hK) hA
          have vb : x 20 17 = bi (∃ v, Lad w e cn b wi v) := by rcases A2.1 with z | z; (rw [z, bi_f (fun q => by have := A2.2.1.mpr q; omega)]); (rw [z, bi_t (A2.2.1.mp z)])
          exact jr_zret F dX1_find_94 (pB_of vb ⟨hF, vb, fun z q => A2.2.2 z (A2.2.1.mpr q)⟩) (by omega)
        · skip
          refine jr_aload_n F dX1_find_46 rfl ?_
          refine jr_getR (t := 25) F dX1_find_47 fg_X1_32 (Nat.le_of_ble_eq_true rfl) rfl rfl ?_
          refine jr_aload_n F dX1_find_50 rfl ?_
          refine jr_getR (t := 23) F dX1_find_51 fg_X1_29 (Nat.le_of_ble_eq_true rfl) rfl rfl ?_
          refine jr_vVx F dX1_find_54 cv_X1_125 (c_X0_copy_25) (Nat.le_of_ble_eq_true rfl) rfl rfl rfl rfl (Nat.le_of_ble_eq_true rfl) (Nat.le_of_ble_eq_true rfl) rfl (Nat.le_of_ble_eq_true rfl) (fun w54 e54 => ?_)
          have gk : ∀ k, k ≠ 25 → k ≠ 26 → w54 k = x k := fun k a b1 => by rw [e54, cpA_c b1, up_cell a]
          have z25 : w54 25 1 = x 23 1 := by rw [e54, cpA_c (by decide)]; exact up_self _ _ _ _
          have z1 : w54 1 = x 1 := gk 1 (by decide) (by decide)
          have z2 : w54 2 = x 2 := gk 2 (by decide) (by decide)
          have z20 : w54 20 = x 20 := gk 20 (by decide) (by decide)
          have z27 : w54 27 = x 27 := gk 27 (by decide) (by decide)
          have z28 : w54 28 = x 28 := gk 28 (by decide) (by decide)
          have z29 : w54 29 = x 29 := gk 29 (by decide) (by decide)
          refine jr_aload_n F dX1_find_57 rfl ?_
          refine jr_iload F dX1_find_58 rfl ?_
          refine jr_vB F dX1_find_60 cv_X1_129 (c_X1_takeForks_20 (C := (CW w e cn b wi)) (cell_FOK (z1.trans x1) (z2.trans x2) (by rw [z20]; exact x14) (z27.trans x27) (z28.trans x28) (z29.trans x29) fok) (by omega) (by rw [z25, z1, x1]; exact hN) (by rw [z1, x1]; exact n10) (by rw [z25, hN, e54]; exact rep_m (fun p q p0 p1 q0 q1 => (cpA_mat p0 (by omega) q0 (by omega)).symm) hR4)) (Nat.le_of_ble_eq_true rfl) rfl rfl rfl rfl (Nat.le_of_ble_eq_true rfl) (Nat.le_of_ble_eq_true rfl) rfl (Nat.le_of_ble_eq_true rfl) (fun w60 h60 => ?_)
          have cf : CF w54 = CF w := cell_CF (z2.trans x2) (z27.trans x27) (z28.trans x28) (z29.trans x29)
          rw [cf, z20, x14] at h60
          have Y0 : yF x w60 := ⟨fun k a b1 c d e1 => (h60.1 k c).trans (gk k b1 c), fun i hi => (congrFun (h60.1 20 (by decide)) i).trans (congrFun (gk 20 (by decide) (by decide)) i)⟩
          have y20 : w60 20 = x 20 := (h60.1 20 (by decide)).trans z20
          have y30 : w60 30 = x 30 := (h60.1 30 (by decide)).trans (gk 30 (by decide) (by decide))
          have y31 : w60 31 = x 31 := (h60.1 31 (by decide)).trans (gk 31 (by decide) (by decide))
          have y1 : w60 1 = w 1 := ((h60.1 1 (by decide)).trans (gk 1 (by decide) (by decide))).trans x1
          have y6 : w60 6 = w 6 := ((h60.1 6 (by decide)).trans (gk 6 (by decide) (by decide))).trans x6
          have y7 : w60 7 = w 7 := ((h60.1 7 (by decide)).trans (gk 7 (by decide) (by decide))).trans x7
          refine jr_ifeq_b (tgt := 71) F dX1_find_63 (by decide) (fun c63 => ?_) (fun c63 => ?_)
          · skip
            rw [cf, z20, x14] at c63
            have A0 : Acc w w60 al (SW w (CW w e cn b wi) (x 20 15) (x 20 16) (way + 1)) := Acc_c (fun v => ⟨fun q => (SW_s k0 v).mpr (Or.inl q), fun q => ((SW_s k0 v).mp q).elim id (fun z => absurd ⟨v, z.1⟩ c63)⟩) (Acc_u hA (by rw [y20]) y30 y31)
            have A0f := A0.1
            refine jr_aload_n F dX1_find_71 rfl ?_
            refine jr_getZx F (w60 20 17) dX1_find_72 fg_X1_70 (Nat.le_of_ble_eq_true rfl) rfl rfl rfl (fun q72 => ?_)
            refine jr_if_eq (tgt := 84) F dX1_find_75 (by decide) (fun c75 => ?_) (fun c75 => ?_) (by omega)
            · skip
              refine jr_iinc F dX1_find_84 rfl (Nat.le_of_ble_eq_true rfl) rfl ?_
              refine jr_goto (tgt := 35) F dX1_find_87 (by decide) ?_
              exact jr_sub (ih35 _ (way + 1) (by omega) (by omega) (by omega) (fdF_y hF Y0) (by rw [(Y0).1 23 (by decide) (by decide) (by decide) (by decide) (by decide)]; exact hN) (by rw [mat_c ((Y0).1 24 (by decide) (by decide) (by decide) (by decide) (by decide))]; exact hR4) (by rw [(Y0).2 15 (by decide), (Y0).2 16 (by decide)]; exact hK) (by rw [(Y0).2 15 (by decide), (Y0).2 16 (by decide)]; exact A0)) ⟨rfl, rfl, rfl, rfl, rfl, trivial⟩
            · skip
              refine jr_iload_n F dX1_find_78 rfl ?_
              refine jr_if_ne (tgt := 84) F dX1_find_79 (by decide) (fun c79 => ?_) (fun c79 => ?_) (by omega)
              · skip
                refine jr_iinc F dX1_find_84 rfl (Nat.le_of_ble_eq_true rfl) rfl ?_
                refine jr_goto (tgt := 35) F dX1_find_87 (by decide) ?_
                exact jr_sub (ih35 _ (way + 1) (by omega) (by omega) (by omega) (fdF_y hF Y0) (by rw [(Y0).1 23 (by decide) (by decide) (by decide) (by decide) (by decide)]; exact hN) (by rw [mat_c ((Y0).1 24 (by decide) (by decide) (by decide) (by decide) (by decide))]; exact hR4) (by rw [(Y0).2 15 (by decide), (Y0).2 16 (by decide)]; exact hK) (by rw [(Y0).2 15 (by decide), (Y0).2 16 (by decide)]; exact A0)) ⟨rfl, rfl, rfl, rfl, rfl, trivial⟩
              · skip
                refine jr_iconst F dX1_find_82 ?_
                have ex : ∃ v, Lad w e cn b wi v := (A0.2.1.mp (by omega)).elim (fun v q => ⟨v, (SW_Lad hL.2.2.2 hK v).mp (SW_le (by omega) v q)⟩)
                exact jr_zret F dX1_find_83 (pB_of (bi_t ex).symm ⟨fdF_y hF Y0, by rw [bi_t ex]; omega, fun z => by omega⟩) (by omega)
          · skip
            rw [cf, z20, x14] at c63
            have RC := h60.2 c63
            rw [z25, hN] at RC
            refine jr_aload_n F dX1_find_66 rfl ?_
            refine jr_iload_n F dX1_find_67 rfl ?_
            refine jr_vU F dX1_find_68 cv_X1_132 (c_X1_tryYears_20 (n := w 1 3 + 1) (S := (SW w (CW w e cn b wi) (x 20 15) (x 20 16) way)) (C := CF w way (CW w e cn b wi) (w 20 14)) hal (by rw [y1]) (by rw [y1]; exact n10) (by rw [y20]; exact skO_w y1 y6 y7 sk.1) (by rw [y20]; exact skO_w y1 y6 y7 sk.2) RC ((Acc_w y1).mpr (Acc_u hA (by rw [y20]) y30 y31))) (Nat.le_of_ble_eq_true rfl) rfl rfl rfl rfl (Nat.le_of_ble_eq_true rfl) (Nat.le_of_ble_eq_true rfl) rfl (Nat.le_of_ble_eq_true rfl) (fun w68 h68 => ?_)
            have q68 := (Acc_w y1).mp h68.2
            rw [cell_SY y6 y7, y20] at q68
            have A1 : Acc w w68 al (SW w (CW w e cn b wi) (x 20 15) (x 20 16) (way + 1)) := Acc_c (fun v => (SW_s k0 v).symm) q68
            have A1f := A1.1
            have Y1 : yF x w68 := ⟨fun k a b1 c d e1 => (h68.1.1 k a d e1).trans (Y0.1 k a b1 c d e1), fun i hi => (h68.1.2 i hi).trans (Y0.2 i hi)⟩
            refine jr_aload_n F dX1_find_71 rfl ?_
            refine jr_getZx F (w68 20 17) dX1_find_72 fg_X1_70 (Nat.le_of_ble_eq_true rfl) rfl rfl rfl (fun q72 => ?_)
            refine jr_if_eq (tgt := 84) F dX1_find_75 (by decide) (fun c75 => ?_) (fun c75 => ?_) (by omega)
            · skip
              refine jr_iinc F dX1_find_84 rfl (Nat.le_of_ble_eq_true rfl) rfl ?_
              refine jr_goto (tgt := 35) F dX1_find_87 (by decide) ?_
              exact jr_sub (ih35 _ (way + 1) (by omega) (by omega) (by omega) (fdF_y hF Y1) (by rw [(Y1).1 23 (by decide) (by decide) (by decide) (by decide) (by decide)]; exact hN) (by rw [mat_c ((Y1).1 24 (by decide) (by decide) (by decide) (by decide) (by decide))]; exact hR4) (by rw [(Y1).2 15 (by decide), (Y1).2 16 (by decide)]; exact hK) (by rw [(Y1).2 15 (by decide), (Y1).2 16 (by decide)]; exact A1)) ⟨rfl, rfl, rfl, rfl, rfl, trivial⟩
            · skip
              refine jr_iload_n F dX1_find_78 rfl ?_
              refine jr_if_ne (tgt := 84) F dX1_find_79 (by decide) (fun c79 => ?_) (fun c79 => ?_) (by omega)
              · skip
                refine jr_iinc F dX1_find_84 rfl (Nat.le_of_ble_eq_true rfl) rfl ?_
                refine jr_goto (tgt := 35) F dX1_find_87 (by decide) ?_
                exact jr_sub (ih35 _ (way + 1) (by omega) (by omega) (by omega) (fdF_y hF Y1) (by rw [(Y1).1 23 (by decide) (by decide) (by decide) (by decide) (by decide)]; exact hN) (by rw [mat_c ((Y1).1 24 (by decide) (by decide) (by decide) (by decide) (by decide))]; exact hR4) (by rw [(Y1).2 15 (by decide), (Y1).2 16 (by decide)]; exact hK) (by rw [(Y1).2 15 (by decide), (Y1).2 16 (by decide)]; exact A1)) ⟨rfl, rfl, rfl, rfl, rfl, trivial⟩
              · skip
                refine jr_iconst F dX1_find_82 ?_
                have ex : ∃ v, Lad w e cn b wi v := (A1.2.1.mp (by omega)).elim (fun v q => ⟨v, (SW_Lad hL.2.2.2 hK v).mp (SW_le (by omega) v q)⟩)
                exact jr_zret F dX1_find_83 (pB_of (bi_t ex).symm ⟨fdF_y hF Y1, by rw [bi_t ex]; omega, fun z => by omega⟩) (by omega)
  refine jr_aload_n F dX1_find_0 rfl ?_
  refine jr_iconst F dX1_find_1 ?_
  refine jr_putZx F dX1_find_2 fp_X1_70 (Nat.le_of_ble_eq_true rfl) rfl rfl (by omega) (fun w2 e2 => ?_)
  have g2 : ∀ k, k ≠ 20 → w2 k = w k := fun k hk => by rw [e2, up_cell hk]
  refine jr_aload_n F dX1_find_5 rfl ?_
  refine jr_iload_n F dX1_find_6 rfl ?_
  refine jr_vB F dX1_find_7 cv_X1_118 (c_X1_layTies_20 (C := CL w e cn (w 1 3)) (cell_TI (g2 1 (by decide)) (g2 5 (by decide)) (g2 6 (by decide)) (g2 7 (by decide)) hT) (cell_SK2 (g2 5 (by decide)) (g2 6 (by decide)) hK2) hb (by rw [g2 21 (by decide), g2 1 (by decide)]; exact hL.2.1) (by rw [g2 1 (by decide)]; exact n10) (by rw [g2 21 (by decide), mat_c (g2 22 (by decide)), hL.2.1]; exact hL.2.2.1)) (Nat.le_of_ble_eq_true rfl) rfl rfl rfl rfl (Nat.le_of_ble_eq_true rfl) (Nat.le_of_ble_eq_true rfl) rfl (Nat.le_of_ble_eq_true rfl) (fun w7 h7 => ?_)
  rw [cell_CT (g2 6 (by decide)) (g2 7 (by decide)), g2 5 (by decide)] at h7
  have F7 : fdF w w7 := ⟨fun k a b1 c d e1 f g => (h7.1.1 k a b1 c).trans (g2 k a), fun i a b1 c => (h7.1.2 i a b1).trans (by rw [e2, up_ne (by omega)])⟩
  have Z7 : w7 20 17 = 0 := (h7.1.2 17 (by decide) (by decide)).trans (by rw [e2]; rfl)
  refine jr_ifeq_b (tgt := 30) F dX1_find_10 (by decide) (fun c10 => ?_) (fun c10 => ?_)
  · skip
    rw [cell_CT (g2 6 (by decide)) (g2 7 (by decide)), g2 5 (by decide)] at c10
    refine jr_iconst F dX1_find_30 ?_
    exact jr_zret F dX1_find_31 (pB_of (bi_f (fun ⟨v, q⟩ => c10 ⟨v, q.1.1⟩)).symm (fdR_no F7 Z7 (fun ⟨v, q⟩ => c10 ⟨v, q.1.1⟩))) (by omega)
  · skip
    rw [cell_CT (g2 6 (by decide)) (g2 7 (by decide)), g2 5 (by decide)] at c10
    have l7 := h7.2 c10
    unfold ltR at l7
    rw [g2 21 (by decide), cell_CT (g2 6 (by decide)) (g2 7 (by decide)), g2 5 (by decide), cell_skI (g2 6 (by decide)), hL.2.1] at l7
    have N7 := l7.1
    have QC := l7.2.1
    have K7 := l7.2.2
    have W9 : w7 9 = w 9 := F7.1 9 (by decide) (by decide) (by decide) (by decide) (by decide) (by decide) (by decide)
    refine jr_iload_n F dX1_find_13 rfl ?_
    refine jr_iconst F dX1_find_14 ?_
    refine jr_icmp_eq (tgt := 32) F dX1_find_15 (by decide) (fun c15 => ?_) (fun c15 => ?_) (by omega) (by omega)
    · skip
      have hwm : wi = -1 := c15
      refine jr_iconst F dX1_find_32 ?_
      refine jr_istore F dX1_find_33 (Nat.le_of_ble_eq_true rfl) rfl ?_
      exact jr_sub (L35 _ w7 0 (Nat.lt_succ_self _) (by omega) (by omega) (F7) (N7) (rep_c (D := (CW w e cn b wi)) QC (fun v => ⟨fun q => ⟨q, fun z => absurd hwm z⟩, fun q => q.1⟩)) (K7) (Acc_0 (Z7) (fun v => SW_0 v))) ⟨rfl, rfl, rfl, rfl, rfl, trivial⟩
    · skip
      have ww := hW.2 wi (by omega) (by omega)
      refine jr_aload_n F dX1_find_18 rfl ?_
      refine jr_aload_n F dX1_find_19 rfl ?_
      refine jr_getR (t := 8) F dX1_find_20 fg_X1_19 (Nat.le_of_ble_eq_true rfl) rfl rfl ?_
      refine jr_iload_n F dX1_find_23 rfl ?_
      refine jr_vB F dX1_find_24 cv_X1_121 (c_X1_layPair_8 (C := CT w b (CL w e cn (w 1 3)) (w 5 3)) (cell_smW W9 ww.1) (by rw [N7]; omega) (by rw [N7, cell_wfa W9]; omega) (by rw [N7, cell_wfa W9]; omega) (by rw [N7]; exact QC)) (Nat.le_of_ble_eq_true rfl) rfl rfl rfl rfl (Nat.le_of_ble_eq_true rfl) (Nat.le_of_ble_eq_true rfl) rfl (Nat.le_of_ble_eq_true rfl) (fun w24 h24 => ?_)
      refine jr_ifne_b (tgt := 32) F dX1_find_27 (by decide) (fun c27 => ?_) (fun c27 => ?_)
      · skip
        refine jr_iconst F dX1_find_32 ?_
        refine jr_istore F dX1_find_33 (Nat.le_of_ble_eq_true rfl) rfl ?_
        exact jr_sub (L35 _ w24 0 (Nat.lt_succ_self _) (by omega) (by omega) (⟨fun k a b1 c d e1 f g => (h24.1 k c).trans (F7.1 k a b1 c d e1 f g), fun i a b1 c => (congrFun (h24.1 20 (by decide)) i).trans (F7.2 i a b1 c)⟩) ((congrFun (h24.1 23 (by decide)) 1).trans N7) (by have q := h24.2 c27; rw [N7] at q; exact rep_c (D := (CW w e cn b wi)) q (fun v => ⟨fun z => ⟨z.1, fun _ => by have y : wisC w7 wi v := z.2; rw [cell_wis W9] at y; exact y⟩, fun z => ⟨z.1, by have y := z.2 c15; rw [← cell_wis W9] at y; exact y⟩⟩)) (by rw [h24.1 20 (by decide)]; exact K7) (Acc_0 (by rw [h24.1 20 (by decide)]; exact Z7) (fun v => SW_0 v))) ⟨rfl, rfl, rfl, rfl, rfl, trivial⟩
      · skip
        refine jr_iconst F dX1_find_30 ?_
        have no : ¬ ∃ v, Lad w e cn b wi v := fun ⟨v, q⟩ => c27 ⟨v, q.1.1, by have y := q.1.2 c15; rw [← cell_wis W9] at y; exact y⟩
        exact jr_zret F dX1_find_31 (pB_of (bi_f no).symm (fdR_no ⟨fun k a b1 c d e1 f g => (h24.1 k c).trans (F7.1 k a b1 c d e1 f g), fun i a b1 c => (congrFun (h24.1 20 (by decide)) i).trans (F7.2 i a b1 c)⟩ (by rw [h24.1 20 (by decide)]; exact Z7) no)) (by omega)

