/-- what a way asks of a fork -/
noncomputable def fval (w : Wd) (way i : Int) : Int := @ite _ (inb way i) (Classical.propDecidable _) (w 29 i) (w 28 i)
def FC (w : Wd) (way i : Int) (v : Int → Int) : Prop := v (w 27 i + 1) - v (fa w (w 27 i) 5 + 1) = fval w way i
def CF (w : Wd) (way : Int) (C : (Int → Int) → Prop) (n : Int) (v : Int → Int) : Prop := C v ∧ ∀ i : Int, 0 ≤ i → i < n → FC w way i v
theorem CF_s {w : Wd} {way : Int} {C : (Int → Int) → Prop} {i : Int} (h0 : 0 ≤ i) (v : Int → Int) : CF w way C (i + 1) v ↔ kS (CF w way C i) (fa w (w 27 i) 5 + 1) (w 27 i + 1) (fval w way i) (fval w way i) v := by
  constructor
  · intro q
    have z := q.2 i h0 (by omega)
    unfold FC at z
    exact ⟨⟨q.1, fun j a0 a1 => q.2 j a0 (by omega)⟩, by omega, by omega⟩
  · rintro ⟨q, z⟩
    refine ⟨q.1, fun j a0 a1 => ?_⟩
    by_cases e : j = i
    · rw [e]; unfold FC; omega
    · exact q.2 j a0 (by omega)
theorem CF_le {w : Wd} {way : Int} {C : (Int → Int) → Prop} {i n : Int} (h : i ≤ n) (v : Int → Int) (q : CF w way C n v) : CF w way C i v := ⟨q.1, fun j a0 a1 => q.2 j a0 (by omega)⟩
/-- the forks' rows as they must be -/
def FOK (w : Wd) : Prop := (0 ≤ w 20 14 ∧ w 20 14 ≤ 3) ∧ ∀ i : Int, 0 ≤ i → i < w 20 14 → (0 ≤ w 27 i ∧ w 27 i < w 1 3) ∧ (0 ≤ fa w (w 27 i) 5 ∧ fa w (w 27 i) 5 < w 1 3) ∧ (-1000 ≤ w 28 i ∧ w 28 i ≤ 1000) ∧ (-1000 ≤ w 29 i ∧ w 29 i ≤ 1000)
theorem fval_t {w : Wd} {way i : Int} (h : inb way i) : fval w way i = w 29 i := by unfold fval; rw [if_pos h]
theorem fval_f {w : Wd} {way i : Int} (h : ¬ inb way i) : fval w way i = w 28 i := by unfold fval; rw [if_neg h]

set_option maxRecDepth 100000 in
set_option maxHeartbeats 4000000 in
theorem c_X0_allows_25 {B : Bs} {w : Wd} {p x q y n : Int} (hn : 1 ≤ n ∧ n ≤ 11) (hp : 0 ≤ p ∧ p < n) (hq : 0 ≤ q ∧ q < n) (hx : -5000 ≤ x ∧ x ≤ 5000) (hy : -5000 ≤ y ∧ y ≤ 5000) (hg : gok n (mat w 26)) : Sp (GX B) 2 yX0_allows cX0_allows 5 (Option.some FieldType.boolean) [.ref (ga (GX B) (25)), iv (p), iv (x), iv (q), iv (y)] w (pI w (bi (alw (mat w 26) p x q y))) := by
  refine Sp.of (by decide) (Nat.le_of_ble_eq_true rfl) (fun X F => ?_)
  have g1 := gok_R hg (a := 0) (b := p) (by omega) (by omega) hp.1 hp.2
  have g2 := gok_R hg (a := p) (b := 0) hp.1 hp.2 (by omega) (by omega)
  have g3 := gok_R hg (a := 0) (b := q) (by omega) (by omega) hq.1 hq.2
  have g4 := gok_R hg (a := q) (b := 0) hq.1 hq.2 (by omega) (by omega)
  have g5 := gok_R hg hp.1 hp.2 hq.1 hq.2
  have g6 := gok_R hg hq.1 hq.2 hp.1 hp.2
  show Jw (GX B) X _ 0 [some (.ref (ga (GX B) (25))), some (iv (p)), some (iv (x)), some (iv (q)), some (iv (y))] [] w
  refine jr_iload_n F dX0_allows_0 rfl ?_
  refine jr_aload_n F dX0_allows_1 rfl ?_
  refine jr_iconst F dX0_allows_2 ?_
  refine jr_iload_n F dX0_allows_3 rfl ?_
  refine jr_vI F dX0_allows_4 cv_X0_40 (c_X0_most_25 (by omega)) (Nat.le_of_ble_eq_true rfl) rfl rfl rfl rfl (Nat.le_of_ble_eq_true rfl) (Nat.le_of_ble_eq_true rfl) rfl (Nat.le_of_ble_eq_true rfl) ?_
  refine jr_ti (b := (mat w 26 0 p)) (rd_in (by omega) (by omega)) ?_
  refine jr_icmp_gt (tgt := 74) F dX0_allows_7 (by decide) (fun c7 => ?_) (fun c7 => ?_) (by omega) (by omega)
  · skip
    refine jr_iconst F dX0_allows_74 ?_
    exact jr_zret F dX0_allows_75 (pI_of (bi_f (by unfold alw; omega)).symm rfl) (by omega)
  · skip
    refine jr_iload_n F dX0_allows_10 rfl ?_
    refine jr_ineg F dX0_allows_11 ?_
    refine jr_aload_n F dX0_allows_12 rfl ?_
    refine jr_iload_n F dX0_allows_13 rfl ?_
    refine jr_iconst F dX0_allows_14 ?_
    refine jr_vI F dX0_allows_15 cv_X0_40 (c_X0_most_25 (by omega)) (Nat.le_of_ble_eq_true rfl) rfl rfl rfl rfl (Nat.le_of_ble_eq_true rfl) (Nat.le_of_ble_eq_true rfl) rfl (Nat.le_of_ble_eq_true rfl) ?_
    refine jr_ti (b := (mat w 26 p 0)) (rd_in (by omega) (by omega)) ?_
    refine jr_icmp_gt (tgt := 74) F dX0_allows_18 (by decide) (fun c18 => ?_) (fun c18 => ?_) (by omega) (by omega)
    · skip
      refine jr_iconst F dX0_allows_74 ?_
      exact jr_zret F dX0_allows_75 (pI_of (bi_f (by unfold alw; omega)).symm rfl) (by omega)
    · skip
      refine jr_iload F dX0_allows_21 rfl ?_
      refine jr_aload_n F dX0_allows_23 rfl ?_
      refine jr_iconst F dX0_allows_24 ?_
      refine jr_iload_n F dX0_allows_25 rfl ?_
      refine jr_vI F dX0_allows_26 cv_X0_40 (c_X0_most_25 (by omega)) (Nat.le_of_ble_eq_true rfl) rfl rfl rfl rfl (Nat.le_of_ble_eq_true rfl) (Nat.le_of_ble_eq_true rfl) rfl (Nat.le_of_ble_eq_true rfl) ?_
      refine jr_ti (b := (mat w 26 0 q)) (rd_in (by omega) (by omega)) ?_
      refine jr_icmp_gt (tgt := 74) F dX0_allows_29 (by decide) (fun c29 => ?_) (fun c29 => ?_) (by omega) (by omega)
      · skip
        refine jr_iconst F dX0_allows_74 ?_
        exact jr_zret F dX0_allows_75 (pI_of (bi_f (by unfold alw; omega)).symm rfl) (by omega)
      · skip
        refine jr_iload F dX0_allows_32 rfl ?_
        refine jr_ineg F dX0_allows_34 ?_
        refine jr_aload_n F dX0_allows_35 rfl ?_
        refine jr_iload_n F dX0_allows_36 rfl ?_
        refine jr_iconst F dX0_allows_37 ?_
        refine jr_vI F dX0_allows_38 cv_X0_40 (c_X0_most_25 (by omega)) (Nat.le_of_ble_eq_true rfl) rfl rfl rfl rfl (Nat.le_of_ble_eq_true rfl) (Nat.le_of_ble_eq_true rfl) rfl (Nat.le_of_ble_eq_true rfl) ?_
        refine jr_ti (b := (mat w 26 q 0)) (rd_in (by omega) (by omega)) ?_
        refine jr_icmp_gt (tgt := 74) F dX0_allows_41 (by decide) (fun c41 => ?_) (fun c41 => ?_) (by omega) (by omega)
        · skip
          refine jr_iconst F dX0_allows_74 ?_
          exact jr_zret F dX0_allows_75 (pI_of (bi_f (by unfold alw; omega)).symm rfl) (by omega)
        · skip
          refine jr_iload F dX0_allows_44 rfl ?_
          refine jr_iload_n F dX0_allows_46 rfl ?_
          refine jr_isub F dX0_allows_47 ?_
          refine jr_aload_n F dX0_allows_48 rfl ?_
          refine jr_iload_n F dX0_allows_49 rfl ?_
          refine jr_iload_n F dX0_allows_50 rfl ?_
          refine jr_vI F dX0_allows_51 cv_X0_40 (c_X0_most_25 (by omega)) (Nat.le_of_ble_eq_true rfl) rfl rfl rfl rfl (Nat.le_of_ble_eq_true rfl) (Nat.le_of_ble_eq_true rfl) rfl (Nat.le_of_ble_eq_true rfl) ?_
          refine jr_ti (b := (mat w 26 p q)) (rd_in (by omega) (by omega)) ?_
          refine jr_icmp_gt (tgt := 74) F dX0_allows_54 (by decide) (fun c54 => ?_) (fun c54 => ?_) (by omega) (by omega)
          · skip
            refine jr_iconst F dX0_allows_74 ?_
            exact jr_zret F dX0_allows_75 (pI_of (bi_f (by unfold alw; omega)).symm rfl) (by omega)
          · skip
            refine jr_iload_n F dX0_allows_57 rfl ?_
            refine jr_iload F dX0_allows_58 rfl ?_
            refine jr_isub F dX0_allows_60 ?_
            refine jr_aload_n F dX0_allows_61 rfl ?_
            refine jr_iload_n F dX0_allows_62 rfl ?_
            refine jr_iload_n F dX0_allows_63 rfl ?_
            refine jr_vI F dX0_allows_64 cv_X0_40 (c_X0_most_25 (by omega)) (Nat.le_of_ble_eq_true rfl) rfl rfl rfl rfl (Nat.le_of_ble_eq_true rfl) (Nat.le_of_ble_eq_true rfl) rfl (Nat.le_of_ble_eq_true rfl) ?_
            refine jr_ti (b := (mat w 26 q p)) (rd_in (by omega) (by omega)) ?_
            refine jr_icmp_gt (tgt := 74) F dX0_allows_67 (by decide) (fun c67 => ?_) (fun c67 => ?_) (by omega) (by omega)
            · skip
              refine jr_iconst F dX0_allows_74 ?_
              exact jr_zret F dX0_allows_75 (pI_of (bi_f (by unfold alw; omega)).symm rfl) (by omega)
            · skip
              refine jr_iconst F dX0_allows_70 ?_
              refine jr_goto (tgt := 75) F dX0_allows_71 (by decide) ?_
              exact jr_zret F dX0_allows_75 (pI_of (bi_t (by unfold alw; omega)).symm rfl) (by omega)

set_option maxRecDepth 100000 in
set_option maxHeartbeats 4000000 in
theorem c_X1_takeForks_20 {B : Bs} {w : Wd} {way : Int} {C : (Int → Int) → Prop} (hF : FOK w) (hw : 0 ≤ way ∧ way ≤ 1000) (hn : w 25 1 = w 1 3 + 1) (h10 : 0 ≤ w 1 3 ∧ w 1 3 ≤ 10) (hC : rep (w 25 1) (mat w 26) C) : Sp (GX B) 2 yX1_takeForks cX1_takeForks 6 (Option.some FieldType.boolean) [.ref (ga (GX B) (20)), iv (way)] w (pB (∃ v, CF w way C (w 20 14) v) (fun u => (∀ k, k ≠ 26 → u k = w k) ∧ ((∃ v, CF w way C (w 20 14) v) → rep (w 25 1) (mat u 26) (CF w way C (w 20 14))))) := by
  refine Sp.of (by decide) (Nat.le_of_ble_eq_true rfl) (fun X F => ?_)
  have f3 := hF.1
  show Jw (GX B) X _ 0 [some (.ref (ga (GX B) (20))), some (iv (way))] [] w
  refine jr_iconst F dX1_takeForks_0 ?_
  refine jr_istore_n F dX1_takeForks_1 (Nat.le_of_ble_eq_true rfl) rfl ?_
  have L2 : ∀ (fuel : Nat) (u : Wd) (i : Int), (w 20 14 - i).toNat < fuel → (0 ≤ i) → (i ≤ w 20 14) → (∀ k, k ≠ 26 → u k = w k) → (rep (w 25 1) (mat u 26) (CF w way C i)) → Jw (GX B) X (pB (∃ v, CF w way C (w 20 14) v) (fun u => (∀ k, k ≠ 26 → u k = w k) ∧ ((∃ v, CF w way C (w 20 14) v) → rep (w 25 1) (mat u 26) (CF w way C (w 20 14))))) 2 [some (.ref (ga (GX B) 20)), some (iv way), some (iv i)] [] u := by
    intro fuel
    induction fuel with
    | zero => intro u i hfuel; exact absurd hfuel (Nat.not_lt_zero _)
    | succ fuel ih2 =>
        intro u i hfuel i0 i1 hu hR
        have u20 : u 20 = w 20 := hu 20 (by decide)
        have un : u 25 1 = w 25 1 := by rw [hu 25 (by decide)]
        have u27 : u 27 = w 27 := hu 27 (by decide)
        have u28 : u 28 = w 28 := hu 28 (by decide)
        have u29 : u 29 = w 29 := hu 29 (by decide)
        have ff : fa u = fa w := cell_fa (hu 2 (by decide))
        refine jr_iload_n F dX1_takeForks_2 rfl ?_
        refine jr_aload_n F dX1_takeForks_3 rfl ?_
        refine jr_getIx F (w 20 14) dX1_takeForks_4 fg_X1_61 (Nat.le_of_ble_eq_true rfl) rfl rfl (congrFun u20 14) (fun q4 => ?_)
        refine jr_icmp_ge (tgt := 84) F dX1_takeForks_7 (by decide) (fun c7 => ?_) (fun c7 => ?_) (by omega) (by omega)
        · skip
          refine jr_iconst F dX1_takeForks_84 ?_
          obtain rfl : i = w 20 14 := by omega
          exact jr_zret F dX1_takeForks_85 (pB_of (bi_t ⟨_, (hR.2 _).mp (gok_row hR.1 (i := 0) (by omega) (by omega))⟩).symm ⟨hu, fun _ => hR⟩) (by omega)
        · skip
          have fo := hF.2 i i0 (by omega)
          obtain ⟨fo1, fo2, fo3, fo4⟩ := fo
          have fv : -1000 ≤ fval w way i ∧ fval w way i ≤ 1000 := by unfold fval; split <;> omega
          refine jr_iload_n F dX1_takeForks_10 rfl ?_
          refine jr_iload_n F dX1_takeForks_11 rfl ?_
          refine jr_ishr F dX1_takeForks_12 ?_
          refine jr_iconst F dX1_takeForks_13 ?_
          refine jr_iand F dX1_takeForks_14 ?_
          refine jr_top (z := cb way i) F (b_bit (by omega) (by omega)) ?_
          refine jr_ifne_b (tgt := 25) F dX1_takeForks_15 (by decide) (fun c15 => ?_) (fun c15 => ?_)
          · skip
            refine jr_aload_n F dX1_takeForks_25 rfl ?_
            refine jr_getR (t := 29) F dX1_takeForks_26 fg_X1_42 (Nat.le_of_ble_eq_true rfl) rfl rfl ?_
            refine jr_iload_n F dX1_takeForks_29 rfl ?_
            refine jr_nI F dX1_takeForks_30 cn_X1_153 (c_X7_at (Nat.le_of_ble_eq_true rfl) rfl (by omega) (by omega)) rfl (Nat.le_of_ble_eq_true rfl) (Nat.le_of_ble_eq_true rfl) rfl (Nat.le_of_ble_eq_true rfl) ?_
            refine jr_ti (b := (fval w way i)) (by first | (rw [rd_in (by omega) (by omega), u29, fval_t c15]; done) | (rw [rd_in (by omega) (by omega), u28, fval_f c15]; done)) ?_
            refine jr_istore_n F dX1_takeForks_33 (Nat.le_of_ble_eq_true rfl) rfl ?_
            refine jr_aload_n F dX1_takeForks_34 rfl ?_
            refine jr_getR (t := 27) F dX1_takeForks_35 fg_X1_35 (Nat.le_of_ble_eq_true rfl) rfl rfl ?_
            refine jr_iload_n F dX1_takeForks_38 rfl ?_
            refine jr_nI F dX1_takeForks_39 cn_X1_153 (c_X7_at (Nat.le_of_ble_eq_true rfl) rfl (by omega) (by omega)) rfl (Nat.le_of_ble_eq_true rfl) (Nat.le_of_ble_eq_true rfl) rfl (Nat.le_of_ble_eq_true rfl) ?_
            refine jr_ti (b := (w 27 i)) (by rw [rd_in (by omega) (by omega), u27]) ?_
            refine jr_istore F dX1_takeForks_42 (Nat.le_of_ble_eq_true rfl) rfl ?_
            refine jr_aload_n F dX1_takeForks_44 rfl ?_
            refine jr_getR (t := 1) F dX1_takeForks_45 fg_X1_9 (Nat.le_of_ble_eq_true rfl) rfl rfl ?_
            refine jr_iload F dX1_takeForks_48 rfl ?_
            refine jr_iconst F dX1_takeForks_50 ?_
            refine jr_vI F dX1_takeForks_51 cv_X1_84 (c_X3_fact (by omega)) (Nat.le_of_ble_eq_true rfl) rfl rfl rfl rfl (Nat.le_of_ble_eq_true rfl) (Nat.le_of_ble_eq_true rfl) rfl (Nat.le_of_ble_eq_true rfl) ?_
            refine jr_ti (b := (fa w (w 27 i) 5)) (by rw [ff]) ?_
            refine jr_istore F dX1_takeForks_54 (Nat.le_of_ble_eq_true rfl) rfl ?_
            refine jr_aload_n F dX1_takeForks_56 rfl ?_
            refine jr_getR (t := 25) F dX1_takeForks_57 fg_X1_32 (Nat.le_of_ble_eq_true rfl) rfl rfl ?_
            refine jr_iload F dX1_takeForks_60 rfl ?_
            refine jr_iconst F dX1_takeForks_62 ?_
            refine jr_iadd F dX1_takeForks_63 ?_
            refine jr_iload F dX1_takeForks_64 rfl ?_
            refine jr_iconst F dX1_takeForks_66 ?_
            refine jr_iadd F dX1_takeForks_67 ?_
            refine jr_iload_n F dX1_takeForks_68 rfl ?_
            refine jr_iload_n F dX1_takeForks_69 rfl ?_
            refine jr_vB F dX1_takeForks_70 cv_X1_106 (c_X0_keep_25 (by rw [un]; omega) (by omega) (by rw [un]; omega) (by omega) (by rw [un]; omega) (by omega) (by rw [un]; exact hR)) (Nat.le_of_ble_eq_true rfl) rfl rfl rfl rfl (Nat.le_of_ble_eq_true rfl) (Nat.le_of_ble_eq_true rfl) rfl (Nat.le_of_ble_eq_true rfl) (fun w70 h70 => ?_)
            refine jr_ifne_b (tgt := 78) F dX1_takeForks_73 (by decide) (fun c73 => ?_) (fun c73 => ?_)
            · skip
              refine jr_iinc F dX1_takeForks_78 rfl (Nat.le_of_ble_eq_true rfl) rfl ?_
              refine jr_goto (tgt := 2) F dX1_takeForks_81 (by decide) ?_
              exact jr_sub (ih2 _ (i + 1) (by omega) (by omega) (by omega) (fun k hk => (h70.1 k hk).trans (hu k hk)) (by have q := h70.2 c73; rw [un] at q; exact rep_c q (fun v => (CF_s i0 v).symm))) ⟨rfl, rfl, rfl, trivial⟩
            · skip
              refine jr_iconst F dX1_takeForks_76 ?_
              exact jr_zret F dX1_takeForks_77 (pB_of (bi_f (fun ⟨v, q⟩ => c73 ⟨v, (CF_s i0 v).mp (CF_le (by omega) v q)⟩)).symm ⟨fun k hk => (h70.1 k hk).trans (hu k hk), fun ⟨v, q⟩ => absurd ⟨v, (CF_s i0 v).mp (CF_le (by omega) v q)⟩ c73⟩) (by omega)
          · skip
            refine jr_aload_n F dX1_takeForks_18 rfl ?_
            refine jr_getR (t := 28) F dX1_takeForks_19 fg_X1_39 (Nat.le_of_ble_eq_true rfl) rfl rfl ?_
            refine jr_goto (tgt := 29) F dX1_takeForks_22 (by decide) ?_
            refine jr_iload_n F dX1_takeForks_29 rfl ?_
            refine jr_nI F dX1_takeForks_30 cn_X1_153 (c_X7_at (Nat.le_of_ble_eq_true rfl) rfl (by omega) (by omega)) rfl (Nat.le_of_ble_eq_true rfl) (Nat.le_of_ble_eq_true rfl) rfl (Nat.le_of_ble_eq_true rfl) ?_
            refine jr_ti (b := (fval w way i)) (by first | (rw [rd_in (by omega) (by omega), u29, fval_t c15]; done) | (rw [rd_in (by omega) (by omega), u28, fval_f c15]; done)) ?_
            refine jr_istore_n F dX1_takeForks_33 (Nat.le_of_ble_eq_true rfl) rfl ?_
            refine jr_aload_n F dX1_takeForks_34 rfl ?_
            refine jr_getR (t := 27) F dX1_takeForks_35 fg_X1_35 (Nat.le_of_ble_eq_true rfl) rfl rfl ?_
            refine jr_iload_n F dX1_takeForks_38 rfl ?_
            refine jr_nI F dX1_takeForks_39 cn_X1_153 (c_X7_at (Nat.le_of_ble_eq_true rfl) rfl (by omega) (by omega)) rfl (Nat.le_of_ble_eq_true rfl) (Nat.le_of_ble_eq_true rfl) rfl (Nat.le_of_ble_eq_true rfl) ?_
            refine jr_ti (b := (w 27 i)) (by rw [rd_in (by omega) (by omega), u27]) ?_
            refine jr_istore F dX1_takeForks_42 (Nat.le_of_ble_eq_true rfl) rfl ?_
            refine jr_aload_n F dX1_takeForks_44 rfl ?_
            refine jr_getR (t := 1) F dX1_takeForks_45 fg_X1_9 (Nat.le_of_ble_eq_true rfl) rfl rfl ?_
            refine jr_iload F dX1_takeForks_48 rfl ?_
            refine jr_iconst F dX1_takeForks_50 ?_
            refine jr_vI F dX1_takeForks_51 cv_X1_84 (c_X3_fact (by omega)) (Nat.le_of_ble_eq_true rfl) rfl rfl rfl rfl (Nat.le_of_ble_eq_true rfl) (Nat.le_of_ble_eq_true rfl) rfl (Nat.le_of_ble_eq_true rfl) ?_
            refine jr_ti (b := (fa w (w 27 i) 5)) (by rw [ff]) ?_
            refine jr_istore F dX1_takeForks_54 (Nat.le_of_ble_eq_true rfl) rfl ?_
            refine jr_aload_n F dX1_takeForks_56 rfl ?_
            refine jr_getR (t := 25) F dX1_takeForks_57 fg_X1_32 (Nat.le_of_ble_eq_true rfl) rfl rfl ?_
            refine jr_iload F dX1_takeForks_60 rfl ?_
            refine jr_iconst F dX1_takeForks_62 ?_
            refine jr_iadd F dX1_takeForks_63 ?_
            refine jr_iload F dX1_takeForks_64 rfl ?_
            refine jr_iconst F dX1_takeForks_66 ?_
            refine jr_iadd F dX1_takeForks_67 ?_
            refine jr_iload_n F dX1_takeForks_68 rfl ?_
            refine jr_iload_n F dX1_takeForks_69 rfl ?_
            refine jr_vB F dX1_takeForks_70 cv_X1_106 (c_X0_keep_25 (by rw [un]; omega) (by omega) (by rw [un]; omega) (by omega) (by rw [un]; omega) (by omega) (by rw [un]; exact hR)) (Nat.le_of_ble_eq_true rfl) rfl rfl rfl rfl (Nat.le_of_ble_eq_true rfl) (Nat.le_of_ble_eq_true rfl) rfl (Nat.le_of_ble_eq_true rfl) (fun w70 h70 => ?_)
            refine jr_ifne_b (tgt := 78) F dX1_takeForks_73 (by decide) (fun c73 => ?_) (fun c73 => ?_)
            · skip
              refine jr_iinc F dX1_takeForks_78 rfl (Nat.le_of_ble_eq_true rfl) rfl ?_
              refine jr_goto (tgt := 2) F dX1_takeForks_81 (by decide) ?_
              exact jr_sub (ih2 _ (i + 1) (by omega) (by omega) (by omega) (fun k hk => (h70.1 k hk).trans (hu k hk)) (by have q := h70.2 c73; rw [un] at q; exact rep_c q (fun v => (CF_s i0 v).symm))) ⟨rfl, rfl, rfl, trivial⟩
            · skip
              refine jr_iconst F dX1_takeForks_76 ?_
              exact jr_zret F dX1_takeForks_77 (pB_of (bi_f (fun ⟨v, q⟩ => c73 ⟨v, (CF_s i0 v).mp (CF_le (by omega) v q)⟩)).symm ⟨fun k hk => (h70.1 k hk).trans (hu k hk), fun ⟨v, q⟩ => absurd ⟨v, (CF_s i0 v).mp (CF_le (by omega) v q)⟩ c73⟩) (by omega)
  exact jr_sub (L2 _ _ 0 (Nat.lt_succ_self _) (by omega) (by omega) (fun _ _ => rfl) (rep_c hC (fun v => ⟨fun q => ⟨q, fun j a0 a1 => by omega⟩, fun q => q.1⟩))) ⟨rfl, rfl, rfl, trivial⟩

noncomputable def skP (w : Wd) (s : Int) : Int := if s = -1 then 0 else tfa w s 1 + 1
noncomputable def skB (w : Wd) (s j : Int) : Int := if s = -1 then 0 else begw w s j
def skN (s : Int) : Int := if s = -1 then 1 else 3

set_option maxRecDepth 100000 in
set_option maxHeartbeats 4000000 in
theorem c_X1_yearsOf_20 {B : Bs} {w : Wd} {s : Int} (hs : inR s) : Sp (GX B) 0 yX1_yearsOf cX1_yearsOf 2 (Option.some FieldType.int) [.ref (ga (GX B) (20)), iv (s)] w (pI w (skN s)) := by
  refine Sp.of (by decide) (Nat.le_of_ble_eq_true rfl) (fun X F => ?_)
  show Jw (GX B) X _ 0 [some (.ref (ga (GX B) (20))), some (iv (s))] [] w
  refine jr_iload_n F dX1_yearsOf_0 rfl ?_
  refine jr_iconst F dX1_yearsOf_1 ?_
  refine jr_icmp_ne (tgt := 9) F dX1_yearsOf_2 (by decide) (fun c2 => ?_) (fun c2 => ?_) (by omega) (by omega)
  · skip
    refine jr_iconst F dX1_yearsOf_9 ?_
    exact jr_iret F dX1_yearsOf_10 (pI_of (by first | rfl | unfold skN; (repeat' split) <;> omega) rfl)
  · skip
    refine jr_iconst F dX1_yearsOf_5 ?_
    refine jr_goto (tgt := 10) F dX1_yearsOf_6 (by decide) ?_
    exact jr_iret F dX1_yearsOf_10 (pI_of (by first | rfl | unfold skN; (repeat' split) <;> omega) rfl)

set_option maxRecDepth 100000 in
set_option maxHeartbeats 4000000 in
theorem c_X1_pointOf_20 {B : Bs} {w : Wd} {s : Int} (hs : -1 ≤ s ∧ s ≤ 100) : Sp (GX B) 2 yX1_pointOf cX1_pointOf 2 (Option.some FieldType.int) [.ref (ga (GX B) (20)), iv (s)] w (pI w (skP w s)) := by
  refine Sp.of (by decide) (Nat.le_of_ble_eq_true rfl) (fun X F => ?_)
  show Jw (GX B) X _ 0 [some (.ref (ga (GX B) (20))), some (iv (s))] [] w
  refine jr_iload_n F dX1_pointOf_0 rfl ?_
  refine jr_iconst F dX1_pointOf_1 ?_
  refine jr_icmp_ne (tgt := 9) F dX1_pointOf_2 (by decide) (fun c2 => ?_) (fun c2 => ?_) (by omega) (by omega)
  · skip
    refine jr_aload_n F dX1_pointOf_9 rfl ?_
    refine jr_getR (t := 5) F dX1_pointOf_10 fg_X1_15 (Nat.le_of_ble_eq_true rfl) rfl rfl ?_
    refine jr_iload_n F dX1_pointOf_13 rfl ?_
    refine jr_iconst F dX1_pointOf_14 ?_
    refine jr_vI F dX1_pointOf_15 cv_X1_142 (c_X6_fact_5 (by omega)) (Nat.le_of_ble_eq_true rfl) rfl rfl rfl rfl (Nat.le_of_ble_eq_true rfl) (Nat.le_of_ble_eq_true rfl) rfl (Nat.le_of_ble_eq_true rfl) ?_
    refine jr_iconst F dX1_pointOf_18 ?_
    refine jr_iadd F dX1_pointOf_19 ?_
    exact jr_iret F dX1_pointOf_20 (pI_of (by unfold skP; first | rw [if_pos (by omega)] | rw [if_neg (by omega)]) rfl)
  · skip
    refine jr_iconst F dX1_pointOf_5 ?_
    refine jr_goto (tgt := 20) F dX1_pointOf_6 (by decide) ?_
    exact jr_iret F dX1_pointOf_20 (pI_of (by unfold skP; first | rw [if_pos (by omega)] | rw [if_neg (by omega)]) rfl)

set_option maxRecDepth 100000 in
set_option maxHeartbeats 4000000 in
theorem c_X1_beginning_20 {B : Bs} {w : Wd} {s j : Int} (hs : -1 ≤ s ∧ s ≤ 100) (hj : 0 ≤ j ∧ j ≤ 3) : Sp (GX B) 2 yX1_beginning cX1_beginning 3 (Option.some FieldType.int) [.ref (ga (GX B) (20)), iv (s), iv (j)] w (pI w (skB w s j)) := by
  refine Sp.of (by decide) (Nat.le_of_ble_eq_true rfl) (fun X F => ?_)
  show Jw (GX B) X _ 0 [some (.ref (ga (GX B) (20))), some (iv (s)), some (iv (j))] [] w
  refine jr_iload_n F dX1_beginning_0 rfl ?_
  refine jr_iconst F dX1_beginning_1 ?_
  refine jr_icmp_ne (tgt := 9) F dX1_beginning_2 (by decide) (fun c2 => ?_) (fun c2 => ?_) (by omega) (by omega)
  · skip
    refine jr_aload_n F dX1_beginning_9 rfl ?_
    refine jr_getR (t := 5) F dX1_beginning_10 fg_X1_15 (Nat.le_of_ble_eq_true rfl) rfl rfl ?_
    refine jr_iload_n F dX1_beginning_13 rfl ?_
    refine jr_iload_n F dX1_beginning_14 rfl ?_
    refine jr_vI F dX1_beginning_15 cv_X1_143 (c_X6_beginning_5 (by omega) (by omega)) (Nat.le_of_ble_eq_true rfl) rfl rfl rfl rfl (Nat.le_of_ble_eq_true rfl) (Nat.le_of_ble_eq_true rfl) rfl (Nat.le_of_ble_eq_true rfl) ?_
    exact jr_iret F dX1_beginning_18 (pI_of (by unfold skB; first | rw [if_pos (by omega)] | rw [if_neg (by omega)]) rfl)
  · skip
    refine jr_iconst F dX1_beginning_5 ?_
    refine jr_goto (tgt := 18) F dX1_beginning_6 (by decide) ?_
    exact jr_iret F dX1_beginning_18 (pI_of (by unfold skB; first | rw [if_pos (by omega)] | rw [if_neg (by omega)]) rfl)

