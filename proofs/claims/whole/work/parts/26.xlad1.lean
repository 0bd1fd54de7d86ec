/-! what lists and ties ask of the points: point 0 the year 0, point r + 1 the beginning of reign r -/
noncomputable def shl (w : Wd) (r c : Int) : Int := leaw w (fa w r 5) c - lapw w r
noncomputable def lol (w : Wd) (r c : Int) : Int := mosw w (fa w r 5) c - lapw w r
def frk (w : Wd) (r c : Int) : Prop := isMis (fa w (fa w r 5) 1) ∧ ¬ shl w r c = lol w r c
theorem lap_R {w : Wd} {r : Int} (h : smR w r) : -1 ≤ lapw w r ∧ lapw w r ≤ 60 := by
  obtain ⟨_, _, sf⟩ := h
  have := sf 3 (by omega) (by omega)
  unfold lapw; split <;> omega
/-- the forks' rows: places below n hold a reign, its two lengths -/
def lbR (w : Wd) (C : (Int → Int) → Prop) (r p c : Int) (sh lo : Int) (fk : Prop) (u : Wd) : Prop := (∀ k, k ≠ 20 → k ≠ 22 → k ≠ 27 → k ≠ 28 → k ≠ 29 → u k = w k) ∧ (∀ i, i ≠ 14 → u 20 i = w 20 i) ∧
  ((∃ v, kS C (p + 1) (r + 1) sh lo v) → rep (w 21 1) (mat u 22) (kS C (p + 1) (r + 1) sh lo)) ∧
  (fk → u 20 14 = w 20 14 + 1 ∧ (u 27 (w 20 14) = r ∧ u 28 (w 20 14) = sh ∧ u 29 (w 20 14) = lo) ∧ ∀ i, i ≠ w 20 14 → u 27 i = w 27 i ∧ u 28 i = w 28 i ∧ u 29 i = w 29 i) ∧
  (¬ fk → u 20 = w 20 ∧ u 27 = w 27 ∧ u 28 = w 28 ∧ u 29 = w 29)

set_option maxRecDepth 100000 in
set_option maxHeartbeats 4000000 in
theorem c_X1_layBehind_20 {B : Bs} {w : Wd} {r p c : Int} {C : (Int → Int) → Prop} (hp : smR w p) (hr : smR w r) (hc : 0 ≤ c ∧ c ≤ 1) (hn : 1 ≤ w 21 1 ∧ w 21 1 ≤ 11) (pn : p + 1 < w 21 1) (rn : r + 1 < w 21 1) (hC : rep (w 21 1) (mat w 22) C) (hf : 0 ≤ w 20 14 ∧ w 20 14 ≤ 3) (h3 : (isMis (fa w p 1) ∧ ¬ (leaw w p c - lapw w r) = (mosw w p c - lapw w r)) → w 20 14 < 3) : Sp (GX B) 4 yX1_layBehind cX1_layBehind 6 (Option.none : Option FieldType) [.ref (ga (GX B) (20)), iv (r), iv (p), iv (c)] w (pU (lbR w C r p c (leaw w p c - lapw w r) (mosw w p c - lapw w r) (isMis (fa w p 1) ∧ ¬ (leaw w p c - lapw w r) = (mosw w p c - lapw w r)))) := by
  refine Sp.of (by decide) (Nat.le_of_ble_eq_true rfl) (fun X F => ?_)
  have l1 := lea_R hp (c := c) hc
  have l2 := mos_R hp (c := c) hc
  have l3 := lap_R hr
  have p0 := hp.1
  have p1 := hp.2.1
  have r0 := hr.1
  have r1 := hr.2.1
  show Jw (GX B) X _ 0 [some (.ref (ga (GX B) (20))), some (iv (r)), some (iv (p)), some (iv (c))] [] w
  refine jr_aload_n F dX1_layBehind_0 rfl ?_
  refine jr_getR (t := 1) F dX1_layBehind_1 fg_X1_9 (Nat.le_of_ble_eq_true rfl) rfl rfl ?_
  refine jr_iload_n F dX1_layBehind_4 rfl ?_
  refine jr_iload_n F dX1_layBehind_5 rfl ?_
  refine jr_vI F dX1_layBehind_6 cv_X1_96 (c_X3_shortest hp hc) (Nat.le_of_ble_eq_true rfl) rfl rfl rfl rfl (Nat.le_of_ble_eq_true rfl) (Nat.le_of_ble_eq_true rfl) rfl (Nat.le_of_ble_eq_true rfl) ?_
  refine jr_aload_n F dX1_layBehind_9 rfl ?_
  refine jr_getR (t := 1) F dX1_layBehind_10 fg_X1_9 (Nat.le_of_ble_eq_true rfl) rfl rfl ?_
  refine jr_iload_n F dX1_layBehind_13 rfl ?_
  refine jr_vI F dX1_layBehind_14 cv_X1_99 (c_X3_overlap (by omega) (by omega)) (Nat.le_of_ble_eq_true rfl) rfl rfl rfl rfl (Nat.le_of_ble_eq_true rfl) (Nat.le_of_ble_eq_true rfl) rfl (Nat.le_of_ble_eq_true rfl) ?_
  refine jr_isub F dX1_layBehind_17 ?_
  refine jr_istore F dX1_layBehind_18 (Nat.le_of_ble_eq_true rfl) rfl ?_
  refine jr_aload_n F dX1_layBehind_20 rfl ?_
  refine jr_getR (t := 1) F dX1_layBehind_21 fg_X1_9 (Nat.le_of_ble_eq_true rfl) rfl rfl ?_
  refine jr_iload_n F dX1_layBehind_24 rfl ?_
  refine jr_iload_n F dX1_layBehind_25 rfl ?_
  refine jr_vI F dX1_layBehind_26 cv_X1_103 (c_X3_longest hp hc) (Nat.le_of_ble_eq_true rfl) rfl rfl rfl rfl (Nat.le_of_ble_eq_true rfl) (Nat.le_of_ble_eq_true rfl) rfl (Nat.le_of_ble_eq_true rfl) ?_
  refine jr_aload_n F dX1_layBehind_29 rfl ?_
  refine jr_getR (t := 1) F dX1_layBehind_30 fg_X1_9 (Nat.le_of_ble_eq_true rfl) rfl rfl ?_
  refine jr_iload_n F dX1_layBehind_33 rfl ?_
  refine jr_vI F dX1_layBehind_34 cv_X1_99 (c_X3_overlap (by omega) (by omega)) (Nat.le_of_ble_eq_true rfl) rfl rfl rfl rfl (Nat.le_of_ble_eq_true rfl) (Nat.le_of_ble_eq_true rfl) rfl (Nat.le_of_ble_eq_true rfl) ?_
  refine jr_isub F dX1_layBehind_37 ?_
  refine jr_istore F dX1_layBehind_38 (Nat.le_of_ble_eq_true rfl) rfl ?_
  refine jr_aload_n F dX1_layBehind_40 rfl ?_
  refine jr_getR (t := 21) F dX1_layBehind_41 fg_X1_25 (Nat.le_of_ble_eq_true rfl) rfl rfl ?_
  refine jr_iload_n F dX1_layBehind_44 rfl ?_
  refine jr_iconst F dX1_layBehind_45 ?_
  refine jr_iadd F dX1_layBehind_46 ?_
  refine jr_iload_n F dX1_layBehind_47 rfl ?_
  refine jr_iconst F dX1_layBehind_48 ?_
  refine jr_iadd F dX1_layBehind_49 ?_
  refine jr_iload F dX1_layBehind_50 rfl ?_
  refine jr_iload F dX1_layBehind_52 rfl ?_
  refine jr_vB F dX1_layBehind_54 cv_X1_106 (c_X0_keep_21 hn (by omega) pn (by omega) rn (by omega) hC) (Nat.le_of_ble_eq_true rfl) rfl rfl rfl rfl (Nat.le_of_ble_eq_true rfl) (Nat.le_of_ble_eq_true rfl) rfl (Nat.le_of_ble_eq_true rfl) (fun w54 h54 => ?_)
  have f20 : w54 20 = w 20 := h54.1 20 (by decide)
  have f1 : w54 1 = w 1 := h54.1 1 (by decide)
  have f2 : fa w54 p 1 = fa w p 1 := by unfold fa; rw [rd_c (h54.1 2 (by decide))]
  refine jr_pop F dX1_layBehind_57 rfl ?_
  refine jr_aload_n F dX1_layBehind_58 rfl ?_
  refine jr_getR (t := 1) F dX1_layBehind_59 fg_X1_9 (Nat.le_of_ble_eq_true rfl) rfl rfl ?_
  refine jr_iload_n F dX1_layBehind_62 rfl ?_
  refine jr_vI F dX1_layBehind_63 cv_X1_110 (c_X3_isMisread (by omega)) (Nat.le_of_ble_eq_true rfl) rfl rfl rfl rfl (Nat.le_of_ble_eq_true rfl) (Nat.le_of_ble_eq_true rfl) rfl (Nat.le_of_ble_eq_true rfl) ?_
  refine jr_ifeq_b (tgt := 124) F dX1_layBehind_66 (by decide) (fun c66 => ?_) (fun c66 => ?_)
  · skip
    exact jr_vret F dX1_layBehind_124 ⟨rfl, fun k _ h22 _ _ _ => h54.1 k h22, fun i _ => by rw [f20], h54.2, fun q => absurd q.1 (by rw [← f2]; exact c66), fun _ => ⟨f20, h54.1 27 (by decide), h54.1 28 (by decide), h54.1 29 (by decide)⟩⟩
  · skip
    refine jr_iload F dX1_layBehind_69 rfl ?_
    refine jr_iload F dX1_layBehind_71 rfl ?_
    refine jr_icmp_eq (tgt := 124) F dX1_layBehind_73 (by decide) (fun c73 => ?_) (fun c73 => ?_) (by omega) (by omega)
    · skip
      exact jr_vret F dX1_layBehind_124 ⟨rfl, fun k _ h22 _ _ _ => h54.1 k h22, fun i _ => by rw [f20], h54.2, fun q => absurd c73 q.2, fun _ => ⟨f20, h54.1 27 (by decide), h54.1 28 (by decide), h54.1 29 (by decide)⟩⟩
    · skip
      rw [f2] at c66
      have fk : (isMis (fa w p 1) ∧ ¬ (leaw w p c - lapw w r) = (mosw w p c - lapw w r)) := ⟨c66, c73⟩
      have h3 := h3 fk
      refine jr_aload_n F dX1_layBehind_76 rfl ?_
      refine jr_getR (t := 27) F dX1_layBehind_77 fg_X1_35 (Nat.le_of_ble_eq_true rfl) rfl rfl ?_
      refine jr_aload_n F dX1_layBehind_80 rfl ?_
      refine jr_getIx F (w 20 14) dX1_layBehind_81 fg_X1_61 (Nat.le_of_ble_eq_true rfl) rfl rfl (congrFun f20 14) (fun q81 => ?_)
      refine jr_iload_n F dX1_layBehind_84 rfl ?_
      refine jr_nVx F dX1_layBehind_85 cn_X1_114 (c_put_in (Nat.le_of_ble_eq_true rfl) rfl (by omega) (by omega) (by omega) (by omega)) rfl (Nat.le_of_ble_eq_true rfl) (Nat.le_of_ble_eq_true rfl) rfl (Nat.le_of_ble_eq_true rfl) (fun w85 e85 => ?_)
      refine jr_aload_n F dX1_layBehind_88 rfl ?_
      refine jr_getR (t := 28) F dX1_layBehind_89 fg_X1_39 (Nat.le_of_ble_eq_true rfl) rfl rfl ?_
      refine jr_aload_n F dX1_layBehind_92 rfl ?_
      refine jr_getIx F (w 20 14) dX1_layBehind_93 fg_X1_61 (Nat.le_of_ble_eq_true rfl) rfl rfl (by subst e85; exact congrFun f20 14) (fun q93 => ?_)
      refine jr_iload F dX1_layBehind_96 rfl ?_
      refine jr_nVx F dX1_layBehind_98 cn_X1_114 (c_put_in (Nat.le_of_ble_eq_true rfl) rfl (by omega) (by omega) (by omega) (by omega)) rfl (Nat.le_of_ble_eq_true rfl) (Nat.le_of_ble_eq_true rfl) rfl (Nat.le_of_ble_eq_true rfl) (fun w98 e98 => ?_)
      refine jr_aload_n F dX1_layBehind_101 rfl ?_
      refine jr_getR (t := 29) F dX1_layBehind_102 fg_X1_42 (Nat.le_of_ble_eq_true rfl) rfl rfl ?_
      refine jr_aload_n F dX1_layBehind_105 rfl ?_
      refine jr_getIx F (w 20 14) dX1_layBehind_106 fg_X1_61 (Nat.le_of_ble_eq_true rfl) rfl rfl (by subst e98; subst e85; exact congrFun f20 14) (fun q106 => ?_)
      refine jr_iload F dX1_layBehind_109 rfl ?_
      refine jr_nVx F dX1_layBehind_111 cn_X1_114 (c_put_in (Nat.le_of_ble_eq_true rfl) rfl (by omega) (by omega) (by omega) (by omega)) rfl (Nat.le_of_ble_eq_true rfl) (Nat.le_of_ble_eq_true rfl) rfl (Nat.le_of_ble_eq_true rfl) (fun w111 e111 => ?_)
      refine jr_aload_n F dX1_layBehind_114 rfl ?_
      refine jr_dup F dX1_layBehind_115 rfl ?_
      refine jr_getIx F (w 20 14) dX1_layBehind_116 fg_X1_61 (Nat.le_of_ble_eq_true rfl) rfl rfl (by subst e111; subst e98; subst e85; exact congrFun f20 14) (fun q116 => ?_)
      refine jr_iconst F dX1_layBehind_119 ?_
      refine jr_iadd F dX1_layBehind_120 ?_
      refine jr_putIx F dX1_layBehind_121 fp_X1_61 (Nat.le_of_ble_eq_true rfl) rfl rfl (by omega) (fun w121 e121 => ?_)
      refine jr_vret F dX1_layBehind_124 ⟨rfl, ?_⟩
      subst e121; subst e111; subst e98; subst e85
      refine ⟨fun k a b c1 d1 e1 => by rw [up_cell a, up_cell e1, up_cell d1, up_cell c1]; exact h54.1 k b, fun i hi => by rw [up_ne (by omega), up_cell (by decide), up_cell (by decide), up_cell (by decide), f20], fun q => h54.2 q, fun _ => ⟨rfl, ⟨?_, ?_, ?_⟩, fun i hi => ⟨?_, ?_, ?_⟩⟩, fun q => absurd fk q⟩
      · rw [up_cell (by decide), up_cell (by decide), up_cell (by decide), up_self]
      · rw [up_cell (by decide), up_cell (by decide), up_self]
      · rw [up_cell (by decide), up_self]
      · rw [up_cell (by decide), up_cell (by decide), up_cell (by decide), up_ne (by omega), h54.1 27 (by decide)]
      · rw [up_cell (by decide), up_cell (by decide), up_ne (by omega), up_cell (by decide), h54.1 28 (by decide)]
      · rw [up_cell (by decide), up_ne (by omega), up_cell (by decide), up_cell (by decide), h54.1 29 (by decide)]

noncomputable def tsh (w : Wd) (t : Int) : Int := tfa w t 2 - tfa w t 4
noncomputable def wsh (w : Wd) (t : Int) : Int := wfa w t 2 - wfa w t 4
/-- what a tie asks of the points (a sky: nothing here) -/
def tieC (w : Wd) (t : Int) (v : Int → Int) : Prop := (tfa w t 0 = 0 ∧ tsh w t - tfa w t 5 ≤ v (tfa w t 3 + 1) - v (tfa w t 1 + 1) ∧ v (tfa w t 3 + 1) - v (tfa w t 1 + 1) ≤ tsh w t + tfa w t 5) ∨ tfa w t 0 = 1 ∨ (tfa w t 0 = 2 ∧ v 0 - v (tfa w t 1 + 1) ≤ -(begw w t 0)) ∨ ((tfa w t 0 < 0 ∨ 2 < tfa w t 0) ∧ v (tfa w t 1 + 1) - v (tfa w t 3 + 1) ≤ -(tsh w t))
def wisC (w : Wd) (t : Int) (v : Int → Int) : Prop := wsh w t - wfa w t 5 ≤ v (wfa w t 3 + 1) - v (wfa w t 1 + 1) ∧ v (wfa w t 3 + 1) - v (wfa w t 1 + 1) ≤ wsh w t + wfa w t 5

set_option maxRecDepth 100000 in
set_option maxHeartbeats 4000000 in
theorem c_X1_layPair_5 {B : Bs} {w : Wd} {t : Int} {C : (Int → Int) → Prop} (hs : smT w t) (hn : 1 ≤ w 23 1 ∧ w 23 1 ≤ 11) (a1 : 0 ≤ tfa w t 1 ∧ (tfa w t 1 + 1) < w 23 1) (b1 : 0 ≤ tfa w t 3 ∧ (tfa w t 3 + 1) < w 23 1) (hC : rep (w 23 1) (mat w 24) C) : Sp (GX B) 2 yX1_layPair cX1_layPair 5 (Option.some FieldType.boolean) [.ref (ga (GX B) (20)), .ref (ga (GX B) (5)), iv (t)] w (pB (∃ v, kS C (tfa w t 1 + 1) (tfa w t 3 + 1) (tsh w t - tfa w t 5) (tsh w t + tfa w t 5) v) (fun u => (∀ k, k ≠ 24 → u k = w k) ∧ ((∃ v, kS C (tfa w t 1 + 1) (tfa w t 3 + 1) (tsh w t - tfa w t 5) (tsh w t + tfa w t 5) v) → rep (w 23 1) (mat u 24) (kS C (tfa w t 1 + 1) (tfa w t 3 + 1) (tsh w t - tfa w t 5) (tsh w t + tfa w t 5))))) := by
  refine Sp.of (by decide) (Nat.le_of_ble_eq_true rfl) (fun X F => ?_)
  have f1 := hs.2.2.1 1 (by omega) (by omega)
  have f2 := hs.2.2.1 2 (by omega) (by omega)
  have f3 := hs.2.2.1 3 (by omega) (by omega)
  have f4 := hs.2.2.1 4 (by omega) (by omega)
  have f5 := hs.2.2.1 5 (by omega) (by omega)
  have s0 := hs.1
  have s1 := hs.2.1
  have sr : -100 ≤ tsh w t ∧ tsh w t ≤ 100 := by unfold tsh; omega
  show Jw (GX B) X _ 0 [some (.ref (ga (GX B) (20))), some (.ref (ga (GX B) (5))), some (iv (t))] [] w
  refine jr_aload_n F dX1_layPair_0 rfl ?_
  refine jr_iload_n F dX1_layPair_1 rfl ?_
  refine jr_iconst F dX1_layPair_2 ?_
  refine jr_vI F dX1_layPair_3 cv_X1_142 (c_X6_fact_5 (by omega)) (Nat.le_of_ble_eq_true rfl) rfl rfl rfl rfl (Nat.le_of_ble_eq_true rfl) (Nat.le_of_ble_eq_true rfl) rfl (Nat.le_of_ble_eq_true rfl) ?_
  refine jr_istore_n F dX1_layPair_6 (Nat.le_of_ble_eq_true rfl) rfl ?_
  refine jr_aload_n F dX1_layPair_7 rfl ?_
  refine jr_iload_n F dX1_layPair_8 rfl ?_
  refine jr_vI F dX1_layPair_9 cv_X1_150 (c_X6_shift_5 (by omega) (by omega)) (Nat.le_of_ble_eq_true rfl) rfl rfl rfl rfl (Nat.le_of_ble_eq_true rfl) (Nat.le_of_ble_eq_true rfl) rfl (Nat.le_of_ble_eq_true rfl) ?_
  refine jr_ti (b := (tsh w t)) rfl ?_
  refine jr_istore F dX1_layPair_12 (Nat.le_of_ble_eq_true rfl) rfl ?_
  refine jr_aload_n F dX1_layPair_14 rfl ?_
  refine jr_getR (t := 23) F dX1_layPair_15 fg_X1_29 (Nat.le_of_ble_eq_true rfl) rfl rfl ?_
  refine jr_aload_n F dX1_layPair_18 rfl ?_
  refine jr_iload_n F dX1_layPair_19 rfl ?_
  refine jr_iconst F dX1_layPair_20 ?_
  refine jr_vI F dX1_layPair_21 cv_X1_142 (c_X6_fact_5 (by omega)) (Nat.le_of_ble_eq_true rfl) rfl rfl rfl rfl (Nat.le_of_ble_eq_true rfl) (Nat.le_of_ble_eq_true rfl) rfl (Nat.le_of_ble_eq_true rfl) ?_
  refine jr_iconst F dX1_layPair_24 ?_
  refine jr_iadd F dX1_layPair_25 ?_
  refine jr_aload_n F dX1_layPair_26 rfl ?_
  refine jr_iload_n F dX1_layPair_27 rfl ?_
  refine jr_iconst F dX1_layPair_28 ?_
  refine jr_vI F dX1_layPair_29 cv_X1_142 (c_X6_fact_5 (by omega)) (Nat.le_of_ble_eq_true rfl) rfl rfl rfl rfl (Nat.le_of_ble_eq_true rfl) (Nat.le_of_ble_eq_true rfl) rfl (Nat.le_of_ble_eq_true rfl) ?_
  refine jr_iconst F dX1_layPair_32 ?_
  refine jr_iadd F dX1_layPair_33 ?_
  refine jr_iload F dX1_layPair_34 rfl ?_
  refine jr_iload_n F dX1_layPair_36 rfl ?_
  refine jr_isub F dX1_layPair_37 ?_
  refine jr_iload F dX1_layPair_38 rfl ?_
  refine jr_iload_n F dX1_layPair_40 rfl ?_
  refine jr_iadd F dX1_layPair_41 ?_
  refine jr_vB F dX1_layPair_42 cv_X1_106 (c_X0_keep_23 hn (by omega) a1.2 (by omega) b1.2 (by omega) hC) (Nat.le_of_ble_eq_true rfl) rfl rfl rfl rfl (Nat.le_of_ble_eq_true rfl) (Nat.le_of_ble_eq_true rfl) rfl (Nat.le_of_ble_eq_true rfl) (fun w42 h42 => ?_)
  exact jr_zret F dX1_layPair_45 (pB_of rfl h42) (bi_01 _)

set_option maxRecDepth 100000 in
set_option maxHeartbeats 4000000 in
theorem c_X1_layPair_8 {B : Bs} {w : Wd} {t : Int} {C : (Int → Int) → Prop} (hs : smW w t) (hn : 1 ≤ w 23 1 ∧ w 23 1 ≤ 11) (a1 : 0 ≤ wfa w t 1 ∧ (wfa w t 1 + 1) < w 23 1) (b1 : 0 ≤ wfa w t 3 ∧ (wfa w t 3 + 1) < w 23 1) (hC : rep (w 23 1) (mat w 24) C) : Sp (GX B) 2 yX1_layPair cX1_layPair 5 (Option.some FieldType.boolean) [.ref (ga (GX B) (20)), .ref (ga (GX B) (8)), iv (t)] w (pB (∃ v, kS C (wfa w t 1 + 1) (wfa w t 3 + 1) (wsh w t - wfa w t 5) (wsh w t + wfa w t 5) v) (fun u => (∀ k, k ≠ 24 → u k = w k) ∧ ((∃ v, kS C (wfa w t 1 + 1) (wfa w t 3 + 1) (wsh w t - wfa w t 5) (wsh w t + wfa w t 5) v) → rep (w 23 1) (mat u 24) (kS C (wfa w t 1 + 1) (wfa w t 3 + 1) (wsh w t - wfa w t 5) (wsh w t + wfa w t 5))))) := by
  refine Sp.of (by decide) (Nat.le_of_ble_eq_true rfl) (fun X F => ?_)
  have f1 := hs.2.2 1 (by omega) (by omega)
  have f2 := hs.2.2 2 (by omega) (by omega)
  have f3 := hs.2.2 3 (by omega) (by omega)
  have f4 := hs.2.2 4 (by omega) (by omega)
  have f5 := hs.2.2 5 (by omega) (by omega)
  have s0 := hs.1
  have s1 := hs.2.1
  have sr : -100 ≤ wsh w t ∧ wsh w t ≤ 100 := by unfold wsh; omega
  show Jw (GX B) X _ 0 [some (.ref (ga (GX B) (20))), some (.ref (ga (GX B) (8))), some (iv (t))] [] w
  refine jr_aload_n F dX1_layPair_0 rfl ?_
  refine jr_iload_n F dX1_layPair_1 rfl ?_
  refine jr_iconst F dX1_layPair_2 ?_
  refine jr_vI F dX1_layPair_3 cv_X1_142 (c_X6_fact_8 (by omega)) (Nat.le_of_ble_eq_true rfl) rfl rfl rfl rfl (Nat.le_of_ble_eq_true rfl) (Nat.le_of_ble_eq_true rfl) rfl (Nat.le_of_ble_eq_true rfl) ?_
  refine jr_istore_n F dX1_layPair_6 (Nat.le_of_ble_eq_true rfl) rfl ?_
  refine jr_aload_n F dX1_layPair_7 rfl ?_
  refine jr_iload_n F dX1_layPair_8 rfl ?_
  refine jr_vI F dX1_layPair_9 cv_X1_150 (c_X6_shift_8 (by omega) (by omega)) (Nat.le_of_ble_eq_true rfl) rfl rfl rfl rfl (Nat.le_of_ble_eq_true rfl) (Nat.le_of_ble_eq_true rfl) rfl (Nat.le_of_ble_eq_true rfl) ?_
  refine jr_ti (b := (wsh w t)) rfl ?_
  refine jr_istore F dX1_layPair_12 (Nat.le_of_ble_eq_true rfl) rfl ?_
  refine jr_aload_n F dX1_layPair_14 rfl ?_
  refine jr_getR (t := 23) F dX1_layPair_15 fg_X1_29 (Nat.le_of_ble_eq_true rfl) rfl rfl ?_
  refine jr_aload_n F dX1_layPair_18 rfl ?_
  refine jr_iload_n F dX1_layPair_19 rfl ?_
  refine jr_iconst F dX1_layPair_20 ?_
  refine jr_vI F dX1_layPair_21 cv_X1_142 (c_X6_fact_8 (by omega)) (Nat.le_of_ble_eq_true rfl) rfl rfl rfl rfl (Nat.le_of_ble_eq_true rfl) (Nat.le_of_ble_eq_true rfl) rfl (Nat.le_of_ble_eq_true rfl) ?_
  refine jr_iconst F dX1_layPair_24 ?_
  refine jr_iadd F dX1_layPair_25 ?_
  refine jr_aload_n F dX1_layPair_26 rfl ?_
  refine jr_iload_n F dX1_layPair_27 rfl ?_
  refine jr_iconst F dX1_layPair_28 ?_
  refine jr_vI F dX1_layPair_29 cv_X1_142 (c_X6_fact_8 (by omega)) (Nat.le_of_ble_eq_true rfl) rfl rfl rfl rfl (Nat.le_of_ble_eq_true rfl) (Nat.le_of_ble_eq_true rfl) rfl (Nat.le_of_ble_eq_true rfl) ?_
  refine jr_iconst F dX1_layPair_32 ?_
  refine jr_iadd F dX1_layPair_33 ?_
  refine jr_iload F dX1_layPair_34 rfl ?_
  refine jr_iload_n F dX1_layPair_36 rfl ?_
  refine jr_isub F dX1_layPair_37 ?_
  refine jr_iload F dX1_layPair_38 rfl ?_
  refine jr_iload_n F dX1_layPair_40 rfl ?_
  refine jr_iadd F dX1_layPair_41 ?_
  refine jr_vB F dX1_layPair_42 cv_X1_106 (c_X0_keep_23 hn (by omega) a1.2 (by omega) b1.2 (by omega) hC) (Nat.le_of_ble_eq_true rfl) rfl rfl rfl rfl (Nat.le_of_ble_eq_true rfl) (Nat.le_of_ble_eq_true rfl) rfl (Nat.le_of_ble_eq_true rfl) (fun w42 h42 => ?_)
  exact jr_zret F dX1_layPair_45 (pB_of rfl h42) (bi_01 _)

set_option maxRecDepth 100000 in
set_option maxHeartbeats 4000000 in
theorem c_X1_layTie_20 {B : Bs} {w : Wd} {t : Int} {C : (Int → Int) → Prop} (hs : smT w t) (hn : 1 ≤ w 23 1 ∧ w 23 1 ≤ 11) (a1 : 0 ≤ tfa w t 1 ∧ tfa w t 1 + 1 < w 23 1) (b1 : (tfa w t 0 = 1 ∨ tfa w t 0 = 2) ∨ (0 ≤ tfa w t 3 ∧ tfa w t 3 + 1 < w 23 1)) (hC : rep (w 23 1) (mat w 24) C) : Sp (GX B) 3 yX1_layTie cX1_layTie 3 (Option.some FieldType.boolean) [.ref (ga (GX B) (20)), iv (t)] w (pB (∃ v, C v ∧ tieC w t v) (fun u => (∀ k, k ≠ 20 → k ≠ 24 → u k = w k) ∧ ((tfa w t 0 = 1 → u 20 = (up (up w 20 16 (w 20 15)) 20 15 t) 20) ∧ (¬ tfa w t 0 = 1 → u 20 = w 20)) ∧ ((∃ v, C v ∧ tieC w t v) → rep (w 23 1) (mat u 24) (fun v => C v ∧ tieC w t v)))) := by
  refine Sp.of (by decide) (Nat.le_of_ble_eq_true rfl) (fun X F => ?_)
  have f0 := hs.2.2.1 0 (by omega) (by omega)
  have f1 := hs.2.2.1 1 (by omega) (by omega)
  have f2 := hs.2.2.1 2 (by omega) (by omega)
  have f3 := hs.2.2.1 3 (by omega) (by omega)
  have f4 := hs.2.2.1 4 (by omega) (by omega)
  have f5 := hs.2.2.1 5 (by omega) (by omega)
  have s0 := hs.1
  have s1 := hs.2.1
  have y0 := hs.2.2.2 0 (by omega) (by omega)
  have sr : -100 ≤ tsh w t ∧ tsh w t ≤ 100 := by unfold tsh; omega
  have br : -2200 ≤ begw w t 0 ∧ begw w t 0 ≤ 2200 := by unfold begw; omega
  show Jw (GX B) X _ 0 [some (.ref (ga (GX B) (20))), some (iv (t))] [] w
  refine jr_aload_n F dX1_layTie_0 rfl ?_
  refine jr_getR (t := 5) F dX1_layTie_1 fg_X1_15 (Nat.le_of_ble_eq_true rfl) rfl rfl ?_
  refine jr_iload_n F dX1_layTie_4 rfl ?_
  refine jr_iconst F dX1_layTie_5 ?_
  refine jr_vI F dX1_layTie_6 cv_X1_142 (c_X6_fact_5 (by omega)) (Nat.le_of_ble_eq_true rfl) rfl rfl rfl rfl (Nat.le_of_ble_eq_true rfl) (Nat.le_of_ble_eq_true rfl) rfl (Nat.le_of_ble_eq_true rfl) ?_
  refine jr_iconst F dX1_layTie_9 ?_
  refine jr_iadd F dX1_layTie_10 ?_
  refine jr_istore_n F dX1_layTie_11 (Nat.le_of_ble_eq_true rfl) rfl ?_
  refine jr_aload_n F dX1_layTie_12 rfl ?_
  refine jr_getR (t := 5) F dX1_layTie_13 fg_X1_15 (Nat.le_of_ble_eq_true rfl) rfl rfl ?_
  refine jr_iload_n F dX1_layTie_16 rfl ?_
  refine jr_iconst F dX1_layTie_17 ?_
  refine jr_vI F dX1_layTie_18 cv_X1_142 (c_X6_fact_5 (by omega)) (Nat.le_of_ble_eq_true rfl) rfl rfl rfl rfl (Nat.le_of_ble_eq_true rfl) (Nat.le_of_ble_eq_true rfl) rfl (Nat.le_of_ble_eq_true rfl) ?_
  rcases (show (tfa w t 0) = 0 ∨ (tfa w t 0) = 1 ∨ (tfa w t 0) = 2 ∨ ((tfa w t 0) < 0 ∨ 2 < (tfa w t 0)) by omega) with c21 | c21 | c21 | c21
  · refine jr_tsIn (tgt := 48) F (0) dX1_layTie_21 c21 (by omega) (by omega) rfl (by decide) (by omega) ?_
    have tc : ∀ v, tieC w t v ↔ (tsh w t - tfa w t 5 ≤ v (tfa w t 3 + 1) - v (tfa w t 1 + 1) ∧ v (tfa w t 3 + 1) - v (tfa w t 1 + 1) ≤ tsh w t + tfa w t 5) := fun v => ⟨fun q => by unfold tieC at q; omega, fun q => Or.inl ⟨c21, q.1, q.2⟩⟩
    refine jr_aload_n F dX1_layTie_48 rfl ?_
    refine jr_aload_n F dX1_layTie_49 rfl ?_
    refine jr_getR (t := 5) F dX1_layTie_50 fg_X1_15 (Nat.le_of_ble_eq_true rfl) rfl rfl ?_
    refine jr_iload_n F dX1_layTie_53 rfl ?_
    refine jr_vB F dX1_layTie_54 cv_X1_121 (c_X1_layPair_5 hs hn a1 (by omega) hC) (Nat.le_of_ble_eq_true rfl) rfl rfl rfl rfl (Nat.le_of_ble_eq_true rfl) (Nat.le_of_ble_eq_true rfl) rfl (Nat.le_of_ble_eq_true rfl) (fun w54 h54 => ?_)
    exact jr_zret F dX1_layTie_57 (pB_of (bi_c ⟨fun ⟨v, q⟩ => ⟨v, q.1, (tc v).mpr q.2⟩, fun ⟨v, q⟩ => ⟨v, q.1, (tc v).mp q.2⟩⟩) ⟨fun k _ h => h54.1 k h, ⟨fun q => absurd q (by omega), fun _ => h54.1 20 (by decide)⟩, fun ⟨v, q⟩ => rep_c (h54.2 ⟨v, q.1, (tc v).mp q.2⟩) (fun v => ⟨fun q => ⟨q.1, (tc v).mpr q.2⟩, fun q => ⟨q.1, (tc v).mp q.2⟩⟩)⟩) (bi_01 _)
  · refine jr_tsIn (tgt := 58) F (1) dX1_layTie_21 c21 (by omega) (by omega) rfl (by decide) (by omega) ?_
    have tc : ∀ v, tieC w t v := fun v => Or.inr (Or.inl c21)
    have ne : ∃ v, C v ∧ tieC w t v := ⟨_, (hC.2 _).mp (gok_row hC.1 (i := 0) (by omega) (by omega)), tc _⟩
    refine jr_aload_n F dX1_layTie_58 rfl ?_
    refine jr_aload_n F dX1_layTie_59 rfl ?_
    refine jr_getIx F (w 20 15) dX1_layTie_60 fg_X1_64 (Nat.le_of_ble_eq_true rfl) rfl rfl rfl (fun q60 => ?_)
    refine jr_putIx F dX1_layTie_63 fp_X1_67 (Nat.le_of_ble_eq_true rfl) rfl rfl (by omega) (fun w63 e63 => ?_)
    refine jr_aload_n F dX1_layTie_66 rfl ?_
    refine jr_iload_n F dX1_layTie_67 rfl ?_
    refine jr_putIx F dX1_layTie_68 fp_X1_64 (Nat.le_of_ble_eq_true rfl) rfl rfl (by omega) (fun w68 e68 => ?_)
    refine jr_iconst F dX1_layTie_71 ?_
    exact jr_zret F dX1_layTie_72 (pB_of (bi_t ne).symm ⟨fun k h _ => by subst e68; subst e63; rw [up_cell h, up_cell h], ⟨fun _ => by subst e68; subst e63; rfl, fun q => absurd c21 q⟩, fun _ => by subst e68; subst e63; exact rep_c (D := fun v => C v ∧ tieC w t v) hC (fun v => ⟨fun q => ⟨q, tc v⟩, fun q => q.1⟩)⟩) (by omega)
  · refine jr_tsIn (tgt := 73) F (2) dX1_layTie_21 c21 (by omega) (by omega) rfl (by decide) (by omega) ?_
    have tc : ∀ v, tieC w t v ↔ v 0 - v (tfa w t 1 + 1) ≤ -(begw w t 0) := fun v => ⟨fun q => by unfold tieC at q; omega, fun q => Or.inr (Or.inr (Or.inl ⟨c21, q⟩))⟩
    refine jr_aload_n F dX1_layTie_73 rfl ?_
    refine jr_getR (t := 23) F dX1_layTie_74 fg_X1_29 (Nat.le_of_ble_eq_true rfl) rfl rfl ?_
    refine jr_iload_n F dX1_layTie_77 rfl ?_
    refine jr_iconst F dX1_layTie_78 ?_
    refine jr_aload_n F dX1_layTie_79 rfl ?_
    refine jr_getR (t := 5) F dX1_layTie_80 fg_X1_15 (Nat.le_of_ble_eq_true rfl) rfl rfl ?_
    refine jr_iload_n F dX1_layTie_83 rfl ?_
    refine jr_iconst F dX1_layTie_84 ?_
    refine jr_vI F dX1_layTie_85 cv_X1_143 (c_X6_beginning_5 (by omega) (by omega)) (Nat.le_of_ble_eq_true rfl) rfl rfl rfl rfl (Nat.le_of_ble_eq_true rfl) (Nat.le_of_ble_eq_true rfl) rfl (Nat.le_of_ble_eq_true rfl) ?_
    refine jr_ineg F dX1_layTie_88 ?_
    refine jr_vB F dX1_layTie_89 cv_X1_146 (c_hold_23 hn (by omega) a1.2 (by omega) (by omega) (by omega) hC) (Nat.le_of_ble_eq_true rfl) rfl rfl rfl rfl (Nat.le_of_ble_eq_true rfl) (Nat.le_of_ble_eq_true rfl) rfl (Nat.le_of_ble_eq_true rfl) (fun w89 h89 => ?_)
    exact jr_zret F dX1_layTie_92 (pB_of (bi_c ⟨fun ⟨v, q⟩ => ⟨v, q.1, (tc v).mpr q.2⟩, fun ⟨v, q⟩ => ⟨v, q.1, (tc v).mp q.2⟩⟩) ⟨fun k _ h => h89.1 k h, ⟨fun q => absurd q (by omega), fun _ => h89.1 20 (by decide)⟩, fun ⟨v, q⟩ => rep_c (h89.2.1 ⟨v, q.1, (tc v).mp q.2⟩) (fun v => ⟨fun q => ⟨q.1, (tc v).mpr q.2⟩, fun q => ⟨q.1, (tc v).mp q.2⟩⟩)⟩) (bi_01 _)
  · refine jr_tsOut (tgt := 93) F dX1_layTie_21 c21 (by decide) (by omega) ?_
    have tc : ∀ v, tieC w t v ↔ v (tfa w t 1 + 1) - v (tfa w t 3 + 1) ≤ -(tsh w t) := fun v => ⟨fun q => by unfold tieC at q; omega, fun q => Or.inr (Or.inr (Or.inr ⟨c21, q⟩))⟩
    refine jr_aload_n F dX1_layTie_93 rfl ?_
    refine jr_getR (t := 23) F dX1_layTie_94 fg_X1_29 (Nat.le_of_ble_eq_true rfl) rfl rfl ?_
    refine jr_aload_n F dX1_layTie_97 rfl ?_
    refine jr_getR (t := 5) F dX1_layTie_98 fg_X1_15 (Nat.le_of_ble_eq_true rfl) rfl rfl ?_
    refine jr_iload_n F dX1_layTie_101 rfl ?_
    refine jr_iconst F dX1_layTie_102 ?_
    refine jr_vI F dX1_layTie_103 cv_X1_142 (c_X6_fact_5 (by omega)) (Nat.le_of_ble_eq_true rfl) rfl rfl rfl rfl (Nat.le_of_ble_eq_true rfl) (Nat.le_of_ble_eq_true rfl) rfl (Nat.le_of_ble_eq_true rfl) ?_
    refine jr_iconst F dX1_layTie_106 ?_
    refine jr_iadd F dX1_layTie_107 ?_
    refine jr_iload_n F dX1_layTie_108 rfl ?_
    refine jr_aload_n F dX1_layTie_109 rfl ?_
    refine jr_getR (t := 5) F dX1_layTie_110 fg_X1_15 (Nat.le_of_ble_eq_true rfl) rfl rfl ?_
    refine jr_iload_n F dX1_layTie_113 rfl ?_
    refine jr_vI F dX1_layTie_114 cv_X1_150 (c_X6_shift_5 (by omega) (by omega)) (Nat.le_of_ble_eq_true rfl) rfl rfl rfl rfl (Nat.le_of_ble_eq_true rfl) (Nat.le_of_ble_eq_true rfl) rfl (Nat.le_of_ble_eq_true rfl) ?_
    refine jr_ti (b := (tsh w t)) rfl ?_
    refine jr_ineg F dX1_layTie_117 ?_
    refine jr_vB F dX1_layTie_118 cv_X1_146 (c_hold_23 hn (by omega) (by omega) (by omega) a1.2 (by omega) hC) (Nat.le_of_ble_eq_true rfl) rfl rfl rfl rfl (Nat.le_of_ble_eq_true rfl) (Nat.le_of_ble_eq_true rfl) rfl (Nat.le_of_ble_eq_true rfl) (fun w118 h118 => ?_)
    exact jr_zret F dX1_layTie_121 (pB_of (bi_c ⟨fun ⟨v, q⟩ => ⟨v, q.1, (tc v).mpr q.2⟩, fun ⟨v, q⟩ => ⟨v, q.1, (tc v).mp q.2⟩⟩) ⟨fun k _ h => h118.1 k h, ⟨fun q => absurd q (by omega), fun _ => h118.1 20 (by decide)⟩, fun ⟨v, q⟩ => rep_c (h118.2.1 ⟨v, q.1, (tc v).mp q.2⟩) (fun v => ⟨fun q => ⟨q.1, (tc v).mpr q.2⟩, fun q => ⟨q.1, (tc v).mp q.2⟩⟩)⟩) (bi_01 _)

