noncomputable def fuP (P : Int → Prop) : Nat → Int → Int
  | 0, _ => -1
  | f + 1, i => @ite _ (P i) (Classical.propDecidable _) i (fuP P f (i + 1))
theorem fuk_P {w : Wd} {P : Int → Prop} : ∀ (f : Nat) (i : Int), (∀ r : Int, i ≤ r → r < i + f → (unl w r ↔ P r)) → fuk w f i = fuP P f i
  | 0, _, _ => rfl
  | f + 1, i, h => by
    have e := fuk_P (w := w) (P := P) f (i + 1) (fun r a b => h r (by omega) (by omega))
    have z := h i (by omega) (by omega)
    rw [fuk, fuP, e]
    by_cases q : P i
    · rw [if_pos q, if_pos (z.mpr q)]
    · rw [if_neg q, if_neg (fun y => q (z.mp y))]
/-- the schools' spans of a reign are unlike -/
def paP (w : Wd) (r : Int) : Prop := ¬ spn w 0 9 (blB w 0 9) (-1) r 0 = spn w 1 9 (blB w 1 9) (-1) r 0 ∨ ¬ spn w 0 9 (blB w 0 9) (-1) r 1 = spn w 1 9 (blB w 1 9) (-1) r 1
noncomputable def parw (w : Wd) : Int := fuP (paP w) (w 1 3).toNat 0
theorem par_u {w x k u y z : Wd} {n : Int} (hx : SPS w x 0 9 (blB w 0 9) (-1)) (hk : kpR x k (w 1 3)) (hu : u 32 = k 32 ∧ u 33 = k 33) (hz : SPS k z 1 9 (blB k 1 9) (-1)) (hzu : z 32 = u 32 ∧ z 33 = u 33) (hsq : sq w k) : ∀ r : Int, 0 ≤ r → r < w 1 3 → (unl z r ↔ paP w r) := by
  intro r r0 r1
  have n1 : k 1 3 = w 1 3 := by rw [hsq 1 (by decide) (by decide)]
  have a := hk.2 r r0 r1
  have b0 := hx.2 r 0 r0 r1 (by omega) (by omega)
  have b1 := hx.2 r 1 r0 r1 (by omega) (by omega)
  have d0 := hz.2 r 0 r0 (by omega) (by omega) (by omega)
  have d1 := hz.2 r 1 r0 (by omega) (by omega) (by omega)
  rw [sq_spn hsq, sq_blB hsq] at d0 d1
  unfold unl paP
  rw [hzu.1, hzu.2, hu.1, hu.2, a.1, a.2, b0, b1, d0, d1]
def bcx (x : Int) : Nat → Int
  | 0 => 0
  | n + 1 => bcx x n + (if x.toNat.testBit n then 1 else 0)
/-- how many of the first eight bits are set -/
def pcn (x : Int) : Int := bcx x 8
theorem all8 {P : Int → Prop} (h : ∀ n : Fin 256, P ((n.val : Nat) : Int)) : ∀ q : Int, 0 ≤ q ∧ q ≤ 255 → P q := by
  intro q hq
  have := h ⟨q.toNat, by omega⟩
  rw [Int.toNat_of_nonneg hq.1] at this
  exact this
def bA (x : Int) : Int := ((x.toNat / 2 &&& 85 : Nat) : Int)
def bB (x : Int) : Int := (((x - bA x).toNat &&& 51 : Nat) : Int)
def bC (x : Int) : Int := (((x - bA x).toNat / 4 &&& 51 : Nat) : Int)
def bD (x : Int) : Int := (((bB x + bC x).toNat / 16 : Nat) : Int)
theorem bcx_R (x : Int) : ∀ n : Nat, 0 ≤ bcx x n ∧ bcx x n ≤ n
  | 0 => by unfold bcx; omega
  | n + 1 => by have := bcx_R x n; unfold bcx; split <;> omega

set_option maxRecDepth 100000 in
set_option maxHeartbeats 4000000 in
theorem c_X7_part {B : Bs} {w : Wd}  (hQ : QI w) : Sp (GX B) 7 yX7_part cX7_part 1 (Option.some FieldType.int) [.ref (ga (GX B) (0))] w (pE (fun x u => x = parw w ∧ sq w u)) := by
  refine Sp.of (by decide) (Nat.le_of_ble_eq_true rfl) (fun X F => ?_)
  have n10 := hQ.2.1.1
  have hB0 := blB_R hQ.2.2.2.2.1 0 9
  show Jw (GX B) X _ 0 [some (.ref (ga (GX B) (0)))] [] w
  refine jr_aload_n F dX7_part_0 rfl ?_
  refine jr_getR (t := 20) F dX7_part_1 fg_X7_57 (Nat.le_of_ble_eq_true rfl) rfl rfl ?_
  refine jr_aload_n F dX7_part_4 rfl ?_
  refine jr_iconst F dX7_part_5 ?_
  refine jr_bipush F dX7_part_6 (by decide) ?_
  refine jr_vE F dX7_part_8 cv_X7_189 (c_layK (Or.inl rfl) hQ (by omega)) (Nat.le_of_ble_eq_true rfl) rfl rfl rfl rfl (Nat.le_of_ble_eq_true rfl) (Nat.le_of_ble_eq_true rfl) rfl (Nat.le_of_ble_eq_true rfl) (fun r8 w8 h8 => ?_)
  rw [h8.1]
  refine jr_iconst F dX7_part_11 ?_
  refine jr_iconst F dX7_part_12 ?_
  refine jr_vB F dX7_part_13 cv_X7_192 (c_qfind hQ h8.2.1 (by omega) (Or.inl rfl)) (Nat.le_of_ble_eq_true rfl) rfl rfl rfl rfl (Nat.le_of_ble_eq_true rfl) (Nat.le_of_ble_eq_true rfl) rfl (Nat.le_of_ble_eq_true rfl) (fun w13 h13 => ?_)
  refine jr_pop F dX7_part_16 rfl ?_
  refine jr_aload_n F dX7_part_17 rfl ?_
  refine jr_getR (t := 20) F dX7_part_18 fg_X7_57 (Nat.le_of_ble_eq_true rfl) rfl rfl ?_
  refine jr_vU F dX7_part_21 cv_X7_215 (c_X1_keepSpans_20 (by rw [h13.1.1 1 (by decide) (by decide)]; omega) (by rw [h13.1.2.1]; omega)) (Nat.le_of_ble_eq_true rfl) rfl rfl rfl rfl (Nat.le_of_ble_eq_true rfl) (Nat.le_of_ble_eq_true rfl) rfl (Nat.le_of_ble_eq_true rfl) (fun w21 h21 => ?_)
  have sA : sq w w21 := sq_t h13.1.1 (fun k a b => h21.1 k (by omega) (by omega))
  have Q2 := sq_QI sA hQ
  have hB1 := blB_R Q2.2.2.2.2.1 1 9
  refine jr_aload_n F dX7_part_24 rfl ?_
  refine jr_getR (t := 20) F dX7_part_25 fg_X7_57 (Nat.le_of_ble_eq_true rfl) rfl rfl ?_
  refine jr_aload_n F dX7_part_28 rfl ?_
  refine jr_iconst F dX7_part_29 ?_
  refine jr_bipush F dX7_part_30 (by decide) ?_
  refine jr_vE F dX7_part_32 cv_X7_189 (c_layK (Or.inr rfl) Q2 (by omega)) (Nat.le_of_ble_eq_true rfl) rfl rfl rfl rfl (Nat.le_of_ble_eq_true rfl) (Nat.le_of_ble_eq_true rfl) rfl (Nat.le_of_ble_eq_true rfl) (fun r32 w32 h32 => ?_)
  rw [h32.1]
  refine jr_iconst F dX7_part_35 ?_
  refine jr_iconst F dX7_part_36 ?_
  refine jr_vB F dX7_part_37 cv_X7_192 (c_qfind Q2 h32.2.1 (by omega) (Or.inl rfl)) (Nat.le_of_ble_eq_true rfl) rfl rfl rfl rfl (Nat.le_of_ble_eq_true rfl) (Nat.le_of_ble_eq_true rfl) rfl (Nat.le_of_ble_eq_true rfl) (fun w37 h37 => ?_)
  refine jr_pop F dX7_part_40 rfl ?_
  refine jr_aload_n F dX7_part_41 rfl ?_
  refine jr_getR (t := 20) F dX7_part_42 fg_X7_57 (Nat.le_of_ble_eq_true rfl) rfl rfl ?_
  refine jr_vI F dX7_part_45 cv_X7_218 (c_X1_firstUnlikeKept_20 (by rw [h37.1.1 1 (by decide) (by decide), sA 1 (by decide) (by decide)]; omega) (by rw [h37.1.2.1]; omega)) (Nat.le_of_ble_eq_true rfl) rfl rfl rfl rfl (Nat.le_of_ble_eq_true rfl) (Nat.le_of_ble_eq_true rfl) rfl (Nat.le_of_ble_eq_true rfl) ?_
  have sB : sq w w37 := sq_t sA h37.1.1
  have n13 : w13 1 3 = w 1 3 := by rw [h13.1.1 1 (by decide) (by decide)]
  rw [n13] at h21
  exact jr_iret F dX7_part_48 (pE_of ⟨by unfold parw; rw [sB 1 (by decide) (by decide)]; exact fuk_P _ _ (fun r a b => par_u (n := 0) (y := w) h13.2.1 h21 h32.2.2 h37.2.1 h37.2.2.2 sA r a (by omega)), sB⟩)

set_option maxRecDepth 100000 in
set_option maxHeartbeats 4000000 in
theorem c_J_bitCount {B : Bs} {w : Wd} {x : Int} (hx : 0 ≤ x ∧ x ≤ 255) : Sp (GX B) 0 yJ_bitCount cJ_bitCount 1 (Option.some FieldType.int) [iv (x)] w (pI w (pcn x)) := by
  refine Sp.of (by decide) (Nat.le_of_ble_eq_true rfl) (fun X F => ?_)
  show Jw (GX B) X _ 0 [some (iv (x))] [] w
  refine jr_iload_n F dJ_bitCount_0 rfl ?_
  refine jr_iload_n F dJ_bitCount_1 rfl ?_
  refine jr_iconst F dJ_bitCount_2 ?_
  refine jr_iushr F dJ_bitCount_3 ?_
  refine jr_ldcw (z := 1431655765) F dJ_bitCount_4 (tb_in 767 (by decide +kernel) (by decide +kernel)) ?_
  refine jr_iand F dJ_bitCount_7 ?_
  refine jr_top (z := bA x) F (by generalize x = q at hx ⊢; revert q; exact all8 (by decide +kernel)) ?_
  refine jr_isub F dJ_bitCount_8 ?_
  refine jr_istore_n F dJ_bitCount_9 (Nat.le_of_ble_eq_true rfl) rfl ?_
  refine jr_iload_n F dJ_bitCount_10 rfl ?_
  refine jr_ldcw (z := 858993459) F dJ_bitCount_11 (tb_in 768 (by decide +kernel) (by decide +kernel)) ?_
  refine jr_iand F dJ_bitCount_14 ?_
  refine jr_top (z := bB x) F (by generalize x = q at hx ⊢; revert q; exact all8 (by decide +kernel)) ?_
  refine jr_iload_n F dJ_bitCount_15 rfl ?_
  refine jr_iconst F dJ_bitCount_16 ?_
  refine jr_iushr F dJ_bitCount_17 ?_
  refine jr_ldcw (z := 858993459) F dJ_bitCount_18 (tb_in 768 (by decide +kernel) (by decide +kernel)) ?_
  refine jr_iand F dJ_bitCount_21 ?_
  refine jr_top (z := bC x) F (by generalize x = q at hx ⊢; revert q; exact all8 (by decide +kernel)) ?_
  refine jr_iadd F dJ_bitCount_22 ?_
  refine jr_istore_n F dJ_bitCount_23 (Nat.le_of_ble_eq_true rfl) rfl ?_
  refine jr_iload_n F dJ_bitCount_24 rfl ?_
  refine jr_iload_n F dJ_bitCount_25 rfl ?_
  refine jr_iconst F dJ_bitCount_26 ?_
  refine jr_iushr F dJ_bitCount_27 ?_
  refine jr_top (z := bD x) F (by generalize x = q at hx ⊢; revert q; exact all8 (by decide +kernel)) ?_
  refine jr_iadd F dJ_bitCount_28 ?_
  refine jr_ldcw (z := 252645135) F dJ_bitCount_29 (tb_in 769 (by decide +kernel) (by decide +kernel)) ?_
  refine jr_iand F dJ_bitCount_32 ?_
  refine jr_top (z := pcn x) F (by generalize x = q at hx ⊢; revert q; exact all8 (by decide +kernel)) ?_
  refine jr_istore_n F dJ_bitCount_33 (Nat.le_of_ble_eq_true rfl) rfl ?_
  refine jr_iload_n F dJ_bitCount_34 rfl ?_
  refine jr_iload_n F dJ_bitCount_35 rfl ?_
  refine jr_bipush F dJ_bitCount_36 (by decide) ?_
  refine jr_iushr F dJ_bitCount_38 ?_
  refine jr_top (z := 0) F (by generalize x = q at hx ⊢; revert q; exact all8 (by decide +kernel)) ?_
  refine jr_iadd F dJ_bitCount_39 ?_
  refine jr_istore_n F dJ_bitCount_40 (Nat.le_of_ble_eq_true rfl) rfl ?_
  refine jr_iload_n F dJ_bitCount_41 rfl ?_
  refine jr_iload_n F dJ_bitCount_42 rfl ?_
  refine jr_bipush F dJ_bitCount_43 (by decide) ?_
  refine jr_iushr F dJ_bitCount_45 ?_
  refine jr_top (z := 0) F (by generalize x = q at hx ⊢; revert q; exact all8 (by decide +kernel)) ?_
  refine jr_iadd F dJ_bitCount_46 ?_
  refine jr_istore_n F dJ_bitCount_47 (Nat.le_of_ble_eq_true rfl) rfl ?_
  refine jr_iload_n F dJ_bitCount_48 rfl ?_
  refine jr_bipush F dJ_bitCount_49 (by decide) ?_
  refine jr_iand F dJ_bitCount_51 ?_
  refine jr_top (z := pcn x) F (by generalize x = q at hx ⊢; revert q; exact all8 (by decide +kernel)) ?_
  exact jr_iret F dJ_bitCount_52 (pI_of (by first | rfl | omega) rfl)

