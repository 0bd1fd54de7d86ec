theorem scan_R (L : Int → Int) : ∀ (f : Nat) (k s d : Int), 0 ≤ d → 0 ≤ s → s ≤ 9 → k ≤ (scan L f k s d).1 ∧ (scan L f k s d).1 ≤ k + f ∧ 0 ≤ (scan L f k s d).2.2 ∧ (scan L f k s d).2.2 ≤ d + f ∧ 0 ≤ (scan L f k s d).2.1 ∧ (scan L f k s d).2.1 ≤ 9
  | 0, k, s, d, h1, h2, h3 => by simp only [scan]; omega
  | f + 1, k, s, d, h1, h2, h3 => by
    by_cases q : tnx s (L k) d = 9
    · rw [scan_f q]; simp only; omega
    · rw [scan_s q]
      have a := tnx_R s (L k) d
      have b := dep_R (k := d) (c := L k) ⟨h1, Int.le_refl _⟩ q
      have := scan_R L f (k + 1) (tnx s (L k) d) (d + dep (L k)) b.1 a.1 a.2
      omega
/-- the page is a text -/
def txw (w : Wd) : Prop := (scw w).1 = w 18 1 ∧ (scw w).2.2 = 0 ∧ ((scw w).2.1 = 3 ∨ (scw w).2.1 = 7 ∨ (scw w).2.1 = 8)
noncomputable def faw (w : Wd) : Wd := up (up w 18 2 (scw w).2.1) 18 3 (scw w).2.2
noncomputable def dgP (w : Wd) : Nat → Int → Int
  | 0, h => h
  | f + 1, h => 31 * dgP w f h + pgl w (f : Nat)
theorem dgP_s {w : Wd} {f h : Int} (h0 : 0 ≤ f) : dgP w (f + 1).toNat h = 31 * dgP w f.toNat h + pgl w f := by rw [show (f + 1).toNat = f.toNat + 1 by omega, dgP, Int.toNat_of_nonneg h0]

set_option maxRecDepth 100000 in
set_option maxHeartbeats 4000000 in
theorem c_X2_isText {B : Bs} {w : Wd}  (hp : 0 ≤ w 18 1 ∧ w 18 1 ≤ 60) : Sp (GX B) 3 yX2_isText cX2_isText 1 (Option.some FieldType.boolean) [.ref (ga (GX B) (18))] w (pE (fun r u => r = bi (txw w) ∧ u = faw w)) := by
  refine Sp.of (by decide) (Nat.le_of_ble_eq_true rfl) (fun X F => ?_)
  have sr := scan_R (pgl w) (w 18 1).toNat 0 0 0 (by omega) (by omega) (by omega)
  rw [show scan (pgl w) (w 18 1).toNat 0 0 0 = scw w from rfl] at sr
  show Jw (GX B) X _ 0 [some (.ref (ga (GX B) (18)))] [] w
  refine jr_aload_n F dX2_isText_0 rfl ?_
  refine jr_vE F dX2_isText_1 cv_X2_46 (c_X2_firstFault (by omega)) (Nat.le_of_ble_eq_true rfl) rfl rfl rfl rfl (Nat.le_of_ble_eq_true rfl) (Nat.le_of_ble_eq_true rfl) rfl (Nat.le_of_ble_eq_true rfl) (fun r1 w1 h1 => ?_)
  obtain ⟨hr, hu⟩ := h1
  refine jr_aload_n F dX2_isText_4 rfl ?_
  refine jr_getIx F (w 18 1) dX2_isText_5 fg_X2_15 (Nat.le_of_ble_eq_true rfl) rfl rfl (by subst hu; rfl) (fun q5 => ?_)
  refine jr_icmp_lt (tgt := 18) F dX2_isText_8 (by decide) (fun c8 => ?_) (fun c8 => ?_) (by omega) (by omega)
  · skip
    refine jr_iconst F dX2_isText_18 ?_
    exact jr_zret F dX2_isText_19 (pE_of ⟨by first | exact (bi_t (by unfold txw; omega)).symm | exact (bi_f (by unfold txw; omega)).symm, hu⟩) (by omega)
  · skip
    refine jr_aload_n F dX2_isText_11 rfl ?_
    refine jr_getIx F (scw w).2.2 dX2_isText_12 fg_X2_22 (Nat.le_of_ble_eq_true rfl) rfl rfl (by subst hu; rfl) (fun q12 => ?_)
    refine jr_if_le (tgt := 20) F dX2_isText_15 (by decide) (fun c15 => ?_) (fun c15 => ?_) (by omega)
    · skip
      refine jr_aload_n F dX2_isText_20 rfl ?_
      refine jr_getIx F (scw w).2.1 dX2_isText_21 fg_X2_19 (Nat.le_of_ble_eq_true rfl) rfl rfl (by subst hu; rfl) (fun q21 => ?_)
      refine jr_iconst F dX2_isText_24 ?_
      refine jr_icmp_eq (tgt := 46) F dX2_isText_25 (by decide) (fun c25 => ?_) (fun c25 => ?_) (by omega) (by omega)
      · skip
        refine jr_iconst F dX2_isText_46 ?_
        refine jr_goto (tgt := 51) F dX2_isText_47 (by decide) ?_
        exact jr_zret F dX2_isText_51 (pE_of ⟨by first | exact (bi_t (by unfold txw; omega)).symm | exact (bi_f (by unfold txw; omega)).symm, hu⟩) (by omega)
      · skip
        refine jr_aload_n F dX2_isText_28 rfl ?_
        refine jr_getIx F (scw w).2.1 dX2_isText_29 fg_X2_19 (Nat.le_of_ble_eq_true rfl) rfl rfl (by subst hu; rfl) (fun q29 => ?_)
        refine jr_bipush F dX2_isText_32 (by decide) ?_
        refine jr_icmp_eq (tgt := 46) F dX2_isText_34 (by decide) (fun c34 => ?_) (fun c34 => ?_) (by omega) (by omega)
        · skip
          refine jr_iconst F dX2_isText_46 ?_
          refine jr_goto (tgt := 51) F dX2_isText_47 (by decide) ?_
          exact jr_zret F dX2_isText_51 (pE_of ⟨by first | exact (bi_t (by unfold txw; omega)).symm | exact (bi_f (by unfold txw; omega)).symm, hu⟩) (by omega)
        · skip
          refine jr_aload_n F dX2_isText_37 rfl ?_
          refine jr_getIx F (scw w).2.1 dX2_isText_38 fg_X2_19 (Nat.le_of_ble_eq_true rfl) rfl rfl (by subst hu; rfl) (fun q38 => ?_)
          refine jr_bipush F dX2_isText_41 (by decide) ?_
          refine jr_icmp_ne (tgt := 50) F dX2_isText_43 (by decide) (fun c43 => ?_) (fun c43 => ?_) (by omega) (by omega)
          · skip
            refine jr_iconst F dX2_isText_50 ?_
            exact jr_zret F dX2_isText_51 (pE_of ⟨by first | exact (bi_t (by unfold txw; omega)).symm | exact (bi_f (by unfold txw; omega)).symm, hu⟩) (by omega)
          · skip
            refine jr_iconst F dX2_isText_46 ?_
            refine jr_goto (tgt := 51) F dX2_isText_47 (by decide) ?_
            exact jr_zret F dX2_isText_51 (pE_of ⟨by first | exact (bi_t (by unfold txw; omega)).symm | exact (bi_f (by unfold txw; omega)).symm, hu⟩) (by omega)
    · skip
      refine jr_iconst F dX2_isText_18 ?_
      exact jr_zret F dX2_isText_19 (pE_of ⟨by first | exact (bi_t (by unfold txw; omega)).symm | exact (bi_f (by unfold txw; omega)).symm, hu⟩) (by omega)

set_option maxRecDepth 100000 in
set_option maxHeartbeats 4000000 in
theorem c_X2_digestOn {B : Bs} {w : Wd} {h : Int} (h3 : 0 ≤ w 18 1 ∧ w 18 1 ≤ 60) : Sp (GX B) 2 yX2_digestOn cX2_digestOn 6 (Option.some FieldType.long) [.ref (ga (GX B) (18)), lq (h)] w (pL w (dgP w (w 18 1).toNat h)) := by
  refine Sp.of (by decide) (Nat.le_of_ble_eq_true rfl) (fun X F => ?_)
  refine jr_ok (fun hO => ?_)
  show Jw (GX B) X _ 0 [some (.ref (ga (GX B) (18))), some (lq (h)), none] [] w
  refine jr_lload_n F dX2_digestOn_0 rfl ?_
  refine jr_lstore_n F dX2_digestOn_1 (Nat.le_of_ble_eq_true rfl) rfl ?_
  refine jr_iconst F dX2_digestOn_2 ?_
  refine jr_istore F dX2_digestOn_3 (Nat.le_of_ble_eq_true rfl) rfl ?_
  have L5 : ∀ (fuel : Nat) (i : Int) (z : Int), (w 18 1 - i).toNat < fuel → (0 ≤ i) → (i ≤ w 18 1) → (z = dgP w i.toNat h) → Jw (GX B) X (pL w (dgP w (w 18 1).toNat h)) 5 [some (.ref (ga (GX B) 18)), some (lq h), none, some (lq z), none, some (iv i)] [] w := by
    intro fuel
    induction fuel with
    | zero => intro i z hfuel; exact absurd hfuel (Nat.not_lt_zero _)
    | succ fuel ih5 =>
        intro i z hfuel h0 h1 hz
        refine jr_iload F dX2_digestOn_5 rfl ?_
        refine jr_aload_n F dX2_digestOn_7 rfl ?_
        refine jr_getIx F (w 18 1) dX2_digestOn_8 fg_X2_15 (Nat.le_of_ble_eq_true rfl) rfl rfl rfl (fun q8 => ?_)
        refine jr_icmp_ge (tgt := 34) F dX2_digestOn_11 (by decide) (fun c11 => ?_) (fun c11 => ?_) (by omega) (by omega)
        · skip
          refine jr_lload_n F dX2_digestOn_34 rfl ?_
          exact jr_lret F dX2_digestOn_35 (pL_of (by rw [hz, show i = w 18 1 by omega]) rfl)
        · skip
          refine jr_ldc2 (z := 31) F dX2_digestOn_14 (tb_in 898 (by decide +kernel) (by decide +kernel)) ?_
          refine jr_lload_n F dX2_digestOn_17 rfl ?_
          refine jr_lmul F dX2_digestOn_18 ?_
          refine jr_aload_n F dX2_digestOn_19 rfl ?_
          refine jr_iload F dX2_digestOn_20 rfl ?_
          refine jr_vI F dX2_digestOn_22 cv_X2_39 (c_X2_letterAt (by omega)) (Nat.le_of_ble_eq_true rfl) rfl rfl rfl rfl (Nat.le_of_ble_eq_true rfl) (Nat.le_of_ble_eq_true rfl) rfl (Nat.le_of_ble_eq_true rfl) ?_
          refine jr_i2l F dX2_digestOn_25 (pgl_R hO i) ?_
          refine jr_ladd F dX2_digestOn_26 ?_
          refine jr_lstore_n F dX2_digestOn_27 (Nat.le_of_ble_eq_true rfl) rfl ?_
          refine jr_iinc F dX2_digestOn_28 rfl (Nat.le_of_ble_eq_true rfl) rfl ?_
          refine jr_goto (tgt := 5) F dX2_digestOn_31 (by decide) ?_
          exact jr_sub (ih5 (i + 1) _ (by omega) (by omega) (by omega) (by rw [dgP_s h0, hz])) ⟨rfl, rfl, rfl, rfl, trivial⟩
  exact jr_sub (L5 _ 0 h (Nat.lt_succ_self _) (by omega) (by omega) rfl) ⟨rfl, rfl, rfl, rfl, trivial⟩

