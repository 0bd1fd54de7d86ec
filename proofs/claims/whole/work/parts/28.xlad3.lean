/-- the reigns' facts as they may be told -/
def RI (w : Wd) : Prop := (0 ≤ w 1 3 ∧ w 1 3 ≤ 10) ∧ ∀ r : Int, 0 ≤ r → r < w 1 3 → smR w r ∧ 1 ≤ fa w r 2 ∧ 0 ≤ fa w r 3 ∧ -1 ≤ fa w r 5 ∧ fa w r 5 < r
/-- of one reign one other alone may come behind -/
def INJ (w : Wd) : Prop := ∀ r s : Int, 0 ≤ r → r < w 1 3 → 0 ≤ s → s < w 1 3 → fa w r 5 = fa w s 5 → ¬ fa w r 5 = -1 → r = s
/-- three misread ones at most -/
def M3 (w : Wd) : Prop := ∀ a b c d : Int, (0 ≤ a ∧ a < w 1 3) → (0 ≤ b ∧ b < w 1 3) → (0 ≤ c ∧ c < w 1 3) → (0 ≤ d ∧ d < w 1 3) → ¬ a = b → ¬ a = c → ¬ a = d → ¬ b = c → ¬ b = d → ¬ c = d → isMis (fa w a 1) → isMis (fa w b 1) → isMis (fa w c 1) → isMis (fa w d 1) → False
theorem cb_R (b t : Int) : 0 ≤ cb b t ∧ cb b t ≤ 1 := bi_01 _
theorem leamos {w : Wd} {p c : Int} (h : 1 ≤ fa w p 2) (hc : 0 ≤ c ∧ c ≤ 1) : leaw w p c ≤ mosw w p c := by
  unfold leaw mosw
  (repeat' split) <;> omega
/-- a reign that is bound to the one ahead, as known by e -/
def bnd (w : Wd) (e r : Int) : Prop := knw w r e ∧ ¬ fa w r 5 = -1
noncomputable def shw (w : Wd) (cn r : Int) : Int := shl w r (cb cn (fa w r 5))
noncomputable def low (w : Wd) (cn r : Int) : Int := lol w r (cb cn (fa w r 5))
def CL (w : Wd) (e cn r : Int) (v : Int → Int) : Prop := Cbase (w 1 3 + 1) v ∧ ∀ r' : Int, 0 ≤ r' → r' < r → bnd w e r' → shw w cn r' ≤ v (r' + 1) - v (fa w r' 5 + 1) ∧ v (r' + 1) - v (fa w r' 5 + 1) ≤ low w cn r'
theorem CL_y {w : Wd} {e cn r : Int} (h0 : 0 ≤ r) (h : bnd w e r) (v : Int → Int) : CL w e cn (r + 1) v ↔ kS (CL w e cn r) (fa w r 5 + 1) (r + 1) (shw w cn r) (low w cn r) v := by
  constructor
  · intro q
    exact ⟨⟨q.1, fun r' a0 a1 hb => q.2 r' a0 (by omega) hb⟩, q.2 r h0 (by omega) h⟩
  · rintro ⟨q, z⟩
    refine ⟨q.1, fun r' a0 a1 hb => ?_⟩
    by_cases e : r' = r
    · rw [e]; exact z
    · exact q.2 r' a0 (by omega) hb
theorem CL_n {w : Wd} {e cn r : Int} (h : ¬ bnd w e r) (v : Int → Int) : CL w e cn (r + 1) v ↔ CL w e cn r v := by
  constructor
  · intro q
    exact ⟨q.1, fun r' a0 a1 hb => q.2 r' a0 (by omega) hb⟩
  · intro q
    refine ⟨q.1, fun r' a0 a1 hb => ?_⟩
    by_cases e : r' = r
    · rw [e] at hb; exact absurd hb h
    · exact q.2 r' a0 (by omega) hb
/-- years that the lists allow: each reign begins as soon as it may -/
noncomputable def yrs (w : Wd) (e cn : Int) : Nat → Int → Int
  | 0 => fun _ => 0
  | n + 1 => fun k => @ite _ (k = (n : Nat) + 1) (Classical.propDecidable _) (@ite _ (bnd w e (n : Nat)) (Classical.propDecidable _) (yrs w e cn n (fa w (n : Nat) 5 + 1) + shw w cn (n : Nat)) 0) (yrs w e cn n k)
theorem sh_R {w : Wd} {c r : Int} (hR : RI w) (h0 : 0 ≤ r) (h1 : r < w 1 3) (hb : ¬ fa w r 5 = -1) (hc : 0 ≤ c ∧ c ≤ 1) : -121 ≤ shl w r c ∧ shl w r c ≤ lol w r c ∧ lol w r c ≤ 121 := by
  have q := hR.2 r h0 h1
  have q2 := hR.2 (fa w r 5) (by omega) (by omega)
  have l1 := lea_R q2.1 hc
  have l2 := mos_R q2.1 hc
  have l3 := lap_R q.1
  have l4 := leamos q2.2.1 hc
  have l5 : 0 ≤ lapw w r := by unfold lapw; split <;> omega
  unfold shl lol; omega
theorem yrs_R {w : Wd} {e cn : Int} (hR : RI w) : ∀ n : Nat, (n : Int) ≤ w 1 3 → (∀ k : Int, -(121 * (n : Int)) ≤ yrs w e cn n k ∧ yrs w e cn n k ≤ 121 * (n : Int)) ∧ yrs w e cn n 0 = 0 ∧ ∀ r' : Int, 0 ≤ r' → r' < (n : Int) → bnd w e r' → yrs w e cn n (r' + 1) - yrs w e cn n (fa w r' 5 + 1) = shw w cn r'
  | 0, _ => ⟨fun k => by simp [yrs], rfl, fun r' a0 a1 _ => by omega⟩
  | n + 1, hn => by
    obtain ⟨h1, h2, h3⟩ := yrs_R (e := e) (cn := cn) hR n (by omega)
    refine ⟨fun k => ?_, ?_, fun r' a0 a1 hb => ?_⟩
    · have hk := h1 k
      unfold yrs
      split
      · split
        next q =>
          have hp := h1 (fa w (n : Nat) 5 + 1)
          have hs := sh_R (c := cb cn (fa w (n : Nat) 5)) hR (r := (n : Nat)) (by omega) (by omega) q.2 (cb_R _ _)
          unfold shw; omega
        · omega
      · omega
    · unfold yrs; rw [if_neg (by omega)]; exact h2
    · have q := hR.2 r' a0 (by omega)
      unfold yrs
      rw [if_neg (show ¬ fa w r' 5 + 1 = (n : Nat) + 1 by omega)]
      by_cases e1 : r' = (n : Nat)
      · subst e1
        rw [if_pos rfl, if_pos hb]; omega
      · rw [if_neg (by omega)]
        exact h3 r' a0 (by omega) hb
theorem CL_ex {w : Wd} {e cn r : Int} (hR : RI w) (h0 : 0 ≤ r) (h1 : r ≤ w 1 3) : ∃ v, CL w e cn r v := by
  obtain ⟨a, b, c⟩ := yrs_R (e := e) (cn := cn) hR r.toNat (by omega)
  refine ⟨yrs w e cn r.toNat, fun k _ _ => ?_, fun r' a0 a1 hb => ?_⟩
  · have := a k
    have := hR.1
    rw [b]; omega
  · have q := c r' a0 (by omega) hb
    have z := sh_R (c := cb cn (fa w r' 5)) hR a0 (by omega) hb.2 (cb_R _ _)
    rw [q]; unfold shw low; omega
def isF (w : Wd) (e cn r : Int) : Prop := (0 ≤ r ∧ r < w 1 3) ∧ bnd w e r ∧ frk w r (cb cn (fa w r 5))
/-- the forks laid of the reigns ahead of r -/
def FKS (w u : Wd) (e cn r : Int) : Prop := (0 ≤ u 20 14 ∧ u 20 14 ≤ 3) ∧ (∀ i : Int, 0 ≤ i → i < u 20 14 → (isF w e cn (u 27 i) ∧ u 27 i < r) ∧ u 28 i = shw w cn (u 27 i) ∧ u 29 i = low w cn (u 27 i)) ∧ (∀ i j : Int, 0 ≤ i → i < j → j < u 20 14 → u 27 i < u 27 j) ∧ ∀ r' : Int, r' < r → isF w e cn r' → ∃ i : Int, (0 ≤ i ∧ i < u 20 14) ∧ u 27 i = r'
theorem FKS_3 {w u : Wd} {e cn r : Int} (hI : INJ w) (hM : M3 w) (hR : RI w) (h : FKS w u e cn r) (hf : isF w e cn r) : u 20 14 < 3 := by
  obtain ⟨h1, h2, h3, h4⟩ := h
  rcases (show u 20 14 < 3 ∨ u 20 14 = 3 by omega) with q | q
  · exact q
  · exfalso
    have a0 := h2 0 (by omega) (by omega)
    have a1 := h2 1 (by omega) (by omega)
    have a2 := h2 2 (by omega) (by omega)
    have l1 := h3 0 1 (by omega) (by omega) (by omega)
    have l2 := h3 1 2 (by omega) (by omega) (by omega)
    have f : ∀ x, isF w e cn x → (0 ≤ fa w x 5 ∧ fa w x 5 < w 1 3) := fun x hx => by
      have z := hR.2 x hx.1.1 hx.1.2
      have y := hx.2.1.2
      have := hx.1
      omega
    have d : ∀ x y, isF w e cn x → isF w e cn y → x < y → ¬ fa w x 5 = fa w y 5 := fun x y hx hy hl he => by
      have := hI x y hx.1.1 hx.1.2 hy.1.1 hy.1.2 he hx.2.1.2
      omega
    exact hM _ _ _ _ (f _ a0.1.1) (f _ a1.1.1) (f _ a2.1.1) (f _ hf) (d _ _ a0.1.1 a1.1.1 l1) (d _ _ a0.1.1 a2.1.1 (by omega)) (d _ _ a0.1.1 hf a0.1.2) (d _ _ a1.1.1 a2.1.1 l2) (d _ _ a1.1.1 hf a1.1.2) (d _ _ a2.1.1 hf a2.1.2) a0.1.1.2.2.1 a1.1.1.2.2.1 a2.1.1.2.2.1 hf.2.2.1
theorem FKS_n {w u x : Wd} {e cn r : Int} (h : FKS w u e cn r) (hn : ¬ isF w e cn r) (e20 : x 20 14 = u 20 14) (e27 : x 27 = u 27) (e28 : x 28 = u 28) (e29 : x 29 = u 29) : FKS w x e cn (r + 1) := by
  obtain ⟨h1, h2, h3, h4⟩ := h
  unfold FKS
  rw [e20, e27, e28, e29]
  refine ⟨h1, fun i i0 i1 => ?_, h3, fun r' hr hf => ?_⟩
  · have := h2 i i0 i1; exact ⟨⟨this.1.1, by omega⟩, this.2⟩
  · by_cases q : r' = r
    · rw [q] at hf; exact absurd hf hn
    · exact h4 r' (by omega) hf
theorem FKS_y {w u x : Wd} {e cn r : Int} (h : FKS w u e cn r) (hf : isF w e cn r) (hl : u 20 14 < 3) (e20 : x 20 14 = u 20 14 + 1) (en : x 27 (u 20 14) = r ∧ x 28 (u 20 14) = shw w cn r ∧ x 29 (u 20 14) = low w cn r) (eo : ∀ i : Int, ¬ i = u 20 14 → x 27 i = u 27 i ∧ x 28 i = u 28 i ∧ x 29 i = u 29 i) : FKS w x e cn (r + 1) := by
  obtain ⟨h1, h2, h3, h4⟩ := h
  refine ⟨by omega, fun i i0 i1 => ?_, fun i j i0 i1 i2 => ?_, fun r' hr hf' => ?_⟩
  · by_cases q : i = u 20 14
    · subst q
      rw [en.1]
      exact ⟨⟨hf, by omega⟩, en.2⟩
    · have z := h2 i i0 (by omega)
      have y := eo i q
      rw [y.1, y.2.1, y.2.2]
      exact ⟨⟨z.1.1, by omega⟩, z.2⟩
  · have y := eo i (by omega)
    rw [y.1]
    by_cases q : j = u 20 14
    · rw [q, en.1]; exact (h2 i i0 (by omega)).1.2
    · rw [(eo j q).1]; exact h3 i j i0 i1 (by omega)
  · by_cases q : r' = r
    · exact ⟨u 20 14, by omega, by rw [en.1, q]⟩
    · obtain ⟨i, i1, i2⟩ := h4 r' (by omega) hf'
      exact ⟨i, by omega, by rw [(eo i (by omega)).1]; exact i2⟩
def llF (w u : Wd) : Prop := (∀ k, k ≠ 20 → k ≠ 21 → k ≠ 22 → k ≠ 27 → k ≠ 28 → k ≠ 29 → u k = w k) ∧ ∀ i, i ≠ 13 → i ≠ 14 → u 20 i = w 20 i
def llS (w u : Wd) (e cn r : Int) : Prop := u 20 13 = e ∧ u 21 1 = w 1 3 + 1 ∧ rep (w 1 3 + 1) (mat u 22) (CL w e cn r) ∧ FKS w u e cn r
theorem cell_lea {w u : Wd} (h : u 2 = w 2) : leaw u = leaw w := by funext r c; unfold leaw othw; rw [cell_fa h]
theorem cell_mos {w u : Wd} (h : u 2 = w 2) : mosw u = mosw w := by funext r c; unfold mosw othw; rw [cell_fa h]
theorem cell_lap {w u : Wd} (h : u 2 = w 2) : lapw u = lapw w := by funext r; unfold lapw; rw [cell_fa h]
theorem cell_smR {w u : Wd} (h : u 2 = w 2) {r : Int} (s : smR w r) : smR u r := by unfold smR; rw [cell_fa h]; exact s

set_option maxRecDepth 100000 in
set_option maxHeartbeats 4000000 in
theorem c_X1_layLists_20 {B : Bs} {w : Wd} {e cn : Int} (hR : RI w) (hI : INJ w) (hM : M3 w) (he : 0 ≤ e ∧ e ≤ 9) (hcn : 0 ≤ cn ∧ cn ≤ 1023) : Sp (GX B) 5 yX1_layLists cX1_layLists 5 (Option.none : Option FieldType) [.ref (ga (GX B) (20)), iv (e), iv (cn)] w (pU (fun u => llF w u ∧ llS w u e cn (w 1 3))) := by
  refine Sp.of (by decide) (Nat.le_of_ble_eq_true rfl) (fun X F => ?_)
  have n10 := hR.1
  show Jw (GX B) X _ 0 [some (.ref (ga (GX B) (20))), some (iv (e)), some (iv (cn))] [] w
  refine jr_aload_n F dX1_layLists_0 rfl ?_
  refine jr_iload_n F dX1_layLists_1 rfl ?_
  refine jr_putIx F dX1_layLists_2 fp_X1_57 (Nat.le_of_ble_eq_true rfl) rfl rfl (by omega) (fun w2 e2 => ?_)
  refine jr_aload_n F dX1_layLists_5 rfl ?_
  refine jr_iconst F dX1_layLists_6 ?_
  refine jr_putIx F dX1_layLists_7 fp_X1_61 (Nat.le_of_ble_eq_true rfl) rfl rfl (by omega) (fun w7 e7 => ?_)
  refine jr_aload_n F dX1_layLists_10 rfl ?_
  refine jr_getR (t := 21) F dX1_layLists_11 fg_X1_25 (Nat.le_of_ble_eq_true rfl) rfl rfl ?_
  refine jr_aload_n F dX1_layLists_14 rfl ?_
  refine jr_getR (t := 1) F dX1_layLists_15 fg_X1_9 (Nat.le_of_ble_eq_true rfl) rfl rfl ?_
  refine jr_vI F dX1_layLists_18 cv_X1_74 (c_X3_size) (Nat.le_of_ble_eq_true rfl) rfl rfl rfl rfl (Nat.le_of_ble_eq_true rfl) (Nat.le_of_ble_eq_true rfl) rfl (Nat.le_of_ble_eq_true rfl) ?_
  refine jr_ti (b := (w 1 3)) (by subst e7; subst e2; rfl) ?_
  refine jr_iconst F dX1_layLists_21 ?_
  refine jr_iadd F dX1_layLists_22 ?_
  refine jr_vU F dX1_layLists_23 cv_X1_80 (c_X0_clear_21 (n := w 1 3 + 1) (by omega)) (Nat.le_of_ble_eq_true rfl) rfl rfl rfl rfl (Nat.le_of_ble_eq_true rfl) (Nat.le_of_ble_eq_true rfl) rfl (Nat.le_of_ble_eq_true rfl) (fun w23 h23 => ?_)
  have z14 : w23 20 14 = 0 := by rw [h23.1 20 (by decide) (by decide)]; subst e7; subst e2; rfl
  refine jr_iconst F dX1_layLists_26 ?_
  refine jr_istore_n F dX1_layLists_27 (Nat.le_of_ble_eq_true rfl) rfl ?_
  have L28 : ∀ (fuel : Nat) (u : Wd) (i : Int), (w 1 3 - i).toNat < fuel → (0 ≤ i) → (i ≤ w 1 3) → (llF w u) → (llS w u e cn i) → Jw (GX B) X (pU (fun u => llF w u ∧ llS w u e cn (w 1 3))) 28 [some (.ref (ga (GX B) 20)), some (iv e), some (iv cn), some (iv i)] [] u := by
    intro fuel
    induction fuel with
    | zero => intro u i hfuel; exact absurd hfuel (Nat.not_lt_zero _)
    | succ fuel ih28 =>
        intro u i hfuel i0 i1 hF hL
        have u1 : u 1 = w 1 := hF.1 1 (by decide) (by decide) (by decide) (by decide) (by decide) (by decide)
        have u2 : u 2 = w 2 := hF.1 2 (by decide) (by decide) (by decide) (by decide) (by decide) (by decide)
        have ff := cell_fa u2
        refine jr_iload_n F dX1_layLists_28 rfl ?_
        refine jr_aload_n F dX1_layLists_29 rfl ?_
        refine jr_getR (t := 1) F dX1_layLists_30 fg_X1_9 (Nat.le_of_ble_eq_true rfl) rfl rfl ?_
        refine jr_vI F dX1_layLists_33 cv_X1_74 (c_X3_size) (Nat.le_of_ble_eq_true rfl) rfl rfl rfl rfl (Nat.le_of_ble_eq_true rfl) (Nat.le_of_ble_eq_true rfl) rfl (Nat.le_of_ble_eq_true rfl) ?_
        refine jr_ti (b := (w 1 3)) (congrFun u1 3) ?_
        refine jr_icmp_ge (tgt := 90) F dX1_layLists_36 (by decide) (fun c36 => ?_) (fun c36 => ?_) (by omega) (by omega)
        · skip
          obtain rfl : i = w 1 3 := by omega
          exact jr_vret F dX1_layLists_90 ⟨rfl, hF, hL⟩
        · skip
          have ri := hR.2 i i0 (by omega)
          refine jr_aload_n F dX1_layLists_39 rfl ?_
          refine jr_getR (t := 1) F dX1_layLists_40 fg_X1_9 (Nat.le_of_ble_eq_true rfl) rfl rfl ?_
          refine jr_iload_n F dX1_layLists_43 rfl ?_
          refine jr_iconst F dX1_layLists_44 ?_
          refine jr_vI F dX1_layLists_45 cv_X1_84 (c_X3_fact (by omega)) (Nat.le_of_ble_eq_true rfl) rfl rfl rfl rfl (Nat.le_of_ble_eq_true rfl) (Nat.le_of_ble_eq_true rfl) rfl (Nat.le_of_ble_eq_true rfl) ?_
          refine jr_ti (b := (fa w i 5)) (by rw [ff]) ?_
          refine jr_istore F dX1_layLists_48 (Nat.le_of_ble_eq_true rfl) rfl ?_
          refine jr_iload F dX1_layLists_50 rfl ?_
          refine jr_iconst F dX1_layLists_52 ?_
          refine jr_icmp_eq (tgt := 84) F dX1_layLists_53 (by decide) (fun c53 => ?_) (fun c53 => ?_) (by omega) (by omega)
          · skip
            have nb : ¬ bnd w e i := fun q => q.2 c53
            refine jr_iinc F dX1_layLists_84 rfl (Nat.le_of_ble_eq_true rfl) rfl ?_
            refine jr_goto (tgt := 28) F dX1_layLists_87 (by decide) ?_
            exact jr_sub (ih28 _ (i + 1) (by omega) (by omega) (by omega) hF ⟨hL.1, hL.2.1, rep_c hL.2.2.1 (fun v => (CL_n nb v).symm), FKS_n hL.2.2.2 (fun q => nb q.2.1) rfl rfl rfl rfl⟩) ⟨rfl, rfl, rfl, rfl, trivial⟩
          · skip
            have rp := hR.2 (fa w i 5) (by omega) (by omega)
            refine jr_aload_n F dX1_layLists_56 rfl ?_
            refine jr_getR (t := 1) F dX1_layLists_57 fg_X1_9 (Nat.le_of_ble_eq_true rfl) rfl rfl ?_
            refine jr_iload_n F dX1_layLists_60 rfl ?_
            refine jr_aload_n F dX1_layLists_61 rfl ?_
            refine jr_getIx F e dX1_layLists_62 fg_X1_57 (Nat.le_of_ble_eq_true rfl) rfl rfl hL.1 (fun q62 => ?_)
            refine jr_vI F dX1_layLists_65 cv_X1_88 (c_X3_isKnown (by omega) (by rw [u1]; omega) (by omega)) (Nat.le_of_ble_eq_true rfl) rfl rfl rfl rfl (Nat.le_of_ble_eq_true rfl) (Nat.le_of_ble_eq_true rfl) rfl (Nat.le_of_ble_eq_true rfl) ?_
            refine jr_ifeq_b (tgt := 84) F dX1_layLists_68 (by decide) (fun c68 => ?_) (fun c68 => ?_)
            · skip
              have nb : ¬ bnd w e i := fun q => c68 (by rw [ff, u1]; exact q.1)
              refine jr_iinc F dX1_layLists_84 rfl (Nat.le_of_ble_eq_true rfl) rfl ?_
              refine jr_goto (tgt := 28) F dX1_layLists_87 (by decide) ?_
              exact jr_sub (ih28 _ (i + 1) (by omega) (by omega) (by omega) hF ⟨hL.1, hL.2.1, rep_c hL.2.2.1 (fun v => (CL_n nb v).symm), FKS_n hL.2.2.2 (fun q => nb q.2.1) rfl rfl rfl rfl⟩) ⟨rfl, rfl, rfl, rfl, trivial⟩
            · skip
              have bn : bnd w e i := ⟨by unfold knw; rw [ff, u1] at c68; exact c68, c53⟩
              have sl : leaw u (fa w i 5) (cb cn (fa w i 5)) - lapw u i = shw w cn i := by rw [cell_lea u2, cell_lap u2]; rfl
              have ll : mosw u (fa w i 5) (cb cn (fa w i 5)) - lapw u i = low w cn i := by rw [cell_mos u2, cell_lap u2]; rfl
              refine jr_aload_n F dX1_layLists_71 rfl ?_
              refine jr_iload_n F dX1_layLists_72 rfl ?_
              refine jr_iload F dX1_layLists_73 rfl ?_
              refine jr_iload_n F dX1_layLists_75 rfl ?_
              refine jr_iload F dX1_layLists_76 rfl ?_
              refine jr_ishr F dX1_layLists_78 ?_
              refine jr_iconst F dX1_layLists_79 ?_
              refine jr_iand F dX1_layLists_80 ?_
              refine jr_top (z := cb cn (fa w i 5)) F (b_bit (by omega) (by omega)) ?_
              refine jr_vU F dX1_layLists_81 cv_X1_92 (c_X1_layBehind_20 (C := CL w e cn i) (cell_smR u2 rp.1) (cell_smR u2 ri.1) (cb_R _ _) (by rw [hL.2.1]; omega) (by rw [hL.2.1]; omega) (by rw [hL.2.1]; omega) (by rw [hL.2.1]; exact hL.2.2.1) hL.2.2.2.1 (fun q => FKS_3 hI hM hR hL.2.2.2 ⟨⟨i0, by omega⟩, bn, by rw [ff, sl, ll] at q; exact q⟩)) (Nat.le_of_ble_eq_true rfl) rfl rfl rfl rfl (Nat.le_of_ble_eq_true rfl) (Nat.le_of_ble_eq_true rfl) rfl (Nat.le_of_ble_eq_true rfl) (fun w81 h81 => ?_)
              rw [sl, ll] at h81
              have ex : ∃ v, kS (CL w e cn i) (fa w i 5 + 1) (i + 1) (shw w cn i) (low w cn i) v := by obtain ⟨v, q⟩ := CL_ex (e := e) (cn := cn) (r := i + 1) hR (by omega) (by omega); exact ⟨v, (CL_y i0 bn v).mp q⟩
              have G1 : llF w w81 := ⟨fun k a b c1 d1 e1 f1 => (h81.1 k a c1 d1 e1 f1).trans (hF.1 k a b c1 d1 e1 f1), fun j a b => (h81.2.1 j b).trans (hF.2 j a b)⟩
              have gr := h81.2.2.1 ex
              rw [hL.2.1] at gr
              rw [ff] at h81
              have G2 : llS w w81 e cn (i + 1) := ⟨by rw [h81.2.1 13 (by omega)]; exact hL.1, by rw [h81.1 21 (by decide) (by decide) (by decide) (by decide) (by decide)]; exact hL.2.1, rep_c gr (fun v => (CL_y i0 bn v).symm), Classical.byCases (fun q : (isMis (fa w (fa w i 5) 1) ∧ ¬ shw w cn i = low w cn i) => have y := h81.2.2.2.1 q; FKS_y hL.2.2.2 ⟨⟨i0, by omega⟩, bn, q⟩ (FKS_3 hI hM hR hL.2.2.2 ⟨⟨i0, by omega⟩, bn, q⟩) y.1 y.2.1 y.2.2) (fun q => have y := h81.2.2.2.2 q; FKS_n hL.2.2.2 (fun z => q z.2.2) (by rw [y.1]) y.2.1 y.2.2.1 y.2.2.2)⟩
              refine jr_iinc F dX1_layLists_84 rfl (Nat.le_of_ble_eq_true rfl) rfl ?_
              refine jr_goto (tgt := 28) F dX1_layLists_87 (by decide) ?_
              exact jr_sub (ih28 _ (i + 1) (by omega) (by omega) (by omega) G1 G2) ⟨rfl, rfl, rfl, rfl, trivial⟩
  exact jr_sub (L28 _ _ 0 (Nat.lt_succ_self _) (by omega) (by omega) ⟨fun k a b c1 d1 e1 f1 => by rw [h23.1 k b c1]; subst e7; subst e2; rw [up_cell a, up_cell a], fun j a b => by rw [h23.1 20 (by decide) (by decide)]; subst e7; subst e2; rw [up_ne (by omega), up_ne (by omega)]⟩ ⟨by rw [h23.1 20 (by decide) (by decide)]; subst e7; subst e2; rfl, h23.2.1, rep_c h23.2.2 (fun v => ⟨fun q => ⟨q, fun r' a0 a1 _ => by omega⟩, fun q => q.1⟩), by rw [show FKS w w23 e cn 0 ↔ ((0 ≤ w23 20 14 ∧ w23 20 14 ≤ 3) ∧ (∀ i : Int, 0 ≤ i → i < w23 20 14 → (isF w e cn (w23 27 i) ∧ w23 27 i < 0) ∧ w23 28 i = shw w cn (w23 27 i) ∧ w23 29 i = low w cn (w23 27 i)) ∧ (∀ i j : Int, 0 ≤ i → i < j → j < w23 20 14 → w23 27 i < w23 27 j) ∧ ∀ r' : Int, r' < 0 → isF w e cn r' → ∃ i : Int, (0 ≤ i ∧ i < w23 20 14) ∧ w23 27 i = r') from Iff.rfl, z14]; exact ⟨by omega, fun i a0 a1 => by omega, fun i j a0 a1 a2 => by omega, fun r' a0 a1 => by have := a1.1; omega⟩⟩) ⟨rfl, rfl, rfl, rfl, trivial⟩

