def z17 (w u : Wd) : Prop := (∀ k, k ≠ 17 → u k = w k) ∧ u 17 0 = w 17 0 ∧ u 17 1 = w 17 1 ∧ u 17 2 = w 17 2 ∧ u 17 3 = w 17 3
theorem z17_r (w : Wd) : z17 w w := ⟨fun _ _ => rfl, rfl, rfl, rfl, rfl⟩
theorem z17_s {w u : Wd} (h : z17 w u) (q : Q3) : z17 w (s17 u q) := ⟨fun k hk => by rw [s17_c u q hk]; exact h.1 k hk, h.2⟩
theorem z17_v {w u : Wd} (h : z17 w u) : valv u = valv w := by
  funext c
  rw [valv_e, valv_e, h.2.1, h.2.2.1, h.2.2.2.1, h.2.2.2.2]
theorem z17_rd {w u : Wd} (h : z17 w u) {k : Nat} (hk : k ≠ 17) (n : Int) : rd u k n = rd w k n := by funext i; exact rd_c (h.1 k hk) n i
/-- what the texts say, the last told first -/
noncomputable def sayT (L len o : Int → Int) (act d : Int) : Nat → Int
  | 0 => d
  | n + 1 => @ite _ (L ((n : Nat) * 60) = act ∧ qV (evR o L ((n : Nat) * 60 + 4) ((n : Nat) * 60 + len (n : Nat))) = 1) (Classical.propDecidable _) (L ((n : Nat) * 60 + 2) - 48) (sayT L len o act d n)
theorem sayT_y {L len o : Int → Int} {act d i : Int} (h0 : 0 ≤ i) (h : L (i * 60) = act ∧ qV (evR o L (i * 60 + 4) (i * 60 + len i)) = 1) : sayT L len o act d (i + 1).toNat = L (i * 60 + 2) - 48 := by
  rw [show (i + 1).toNat = i.toNat + 1 by omega, sayT, Int.toNat_of_nonneg h0, if_pos h]
theorem sayT_n {L len o : Int → Int} {act d i : Int} (h0 : 0 ≤ i) (h : ¬ (L (i * 60) = act ∧ qV (evR o L (i * 60 + 4) (i * 60 + len i)) = 1)) : sayT L len o act d (i + 1).toNat = sayT L len o act d i.toNat := by
  rw [show (i + 1).toNat = i.toNat + 1 by omega, sayT, Int.toNat_of_nonneg h0, if_neg h]
def cpB (w : Wd) (c : Nat) (o : Int) : Nat → Wd
  | 0 => w
  | n + 1 => up (cpB w c o n) c (o + (n : Nat)) (w 19 (n : Nat))
theorem cpB_s {w : Wd} {c : Nat} {o n : Int} (h : 0 ≤ n) : cpB w c o (n + 1).toNat = up (cpB w c o n.toNat) c (o + n) (w 19 n) := by rw [show (n + 1).toNat = n.toNat + 1 by omega, cpB, Int.toNat_of_nonneg h]
theorem cpB_c (w : Wd) (c : Nat) (o : Int) {k : Nat} (h : k ≠ c) : ∀ n, cpB w c o n k = w k
  | 0 => rfl
  | n + 1 => by rw [cpB, up_cell h, cpB_c w c o h n]

set_option maxRecDepth 100000 in
set_option maxHeartbeats 4000000 in
theorem c_X4_size_11 {B : Bs} {w : Wd}   : Sp (GX B) 0 yX4_size cX4_size 1 (Option.some FieldType.int) [.ref (ga (GX B) (11))] w (pI w (w 11 2)) := by
  refine Sp.of (by decide) (Nat.le_of_ble_eq_true rfl) (fun X F => ?_)
  show Jw (GX B) X _ 0 [some (.ref (ga (GX B) (11)))] [] w
  refine jr_aload_n F dX4_size_0 rfl ?_
  refine jr_getIx F (w 11 2) dX4_size_1 fg_X4_18 (Nat.le_of_ble_eq_true rfl) rfl rfl rfl (fun q1 => ?_)
  exact jr_iret F dX4_size_4 (pI_of (by first | rfl | omega) rfl)

set_option maxRecDepth 100000 in
set_option maxHeartbeats 4000000 in
theorem c_X4_isFull_11 {B : Bs} {w : Wd}   : Sp (GX B) 0 yX4_isFull cX4_isFull 1 (Option.some FieldType.boolean) [.ref (ga (GX B) (11))] w (pI w (bi (6 ≤ w 11 2))) := by
  refine Sp.of (by decide) (Nat.le_of_ble_eq_true rfl) (fun X F => ?_)
  show Jw (GX B) X _ 0 [some (.ref (ga (GX B) (11)))] [] w
  refine jr_aload_n F dX4_isFull_0 rfl ?_
  refine jr_getIx F (w 11 2) dX4_isFull_1 fg_X4_18 (Nat.le_of_ble_eq_true rfl) rfl rfl rfl (fun q1 => ?_)
  refine jr_bipush F dX4_isFull_4 (by decide) ?_
  refine jr_icmp_lt (tgt := 13) F dX4_isFull_6 (by decide) (fun c6 => ?_) (fun c6 => ?_) (by omega) (by omega)
  · skip
    refine jr_iconst F dX4_isFull_13 ?_
    exact jr_zret F dX4_isFull_14 (pI_of (bi_f (by omega)).symm rfl) (by omega)
  · skip
    refine jr_iconst F dX4_isFull_9 ?_
    refine jr_goto (tgt := 14) F dX4_isFull_10 (by decide) ?_
    exact jr_zret F dX4_isFull_14 (pI_of (bi_t (by omega)).symm rfl) (by omega)

set_option maxRecDepth 100000 in
set_option maxHeartbeats 4000000 in
theorem c_X4_unlearn_11 {B : Bs} {w : Wd}  (h : 0 < w 11 2 ∧ w 11 2 ≤ 6) : Sp (GX B) 0 yX4_unlearn cX4_unlearn 1 (Option.some FieldType.int) [.ref (ga (GX B) (11))] w (pI (up w 11 2 (w 11 2 - 1)) (w 11 2 - 1)) := by
  refine Sp.of (by decide) (Nat.le_of_ble_eq_true rfl) (fun X F => ?_)
  show Jw (GX B) X _ 0 [some (.ref (ga (GX B) (11)))] [] w
  refine jr_aload_n F dX4_unlearn_0 rfl ?_
  refine jr_dup F dX4_unlearn_1 rfl ?_
  refine jr_getIx F (w 11 2) dX4_unlearn_2 fg_X4_18 (Nat.le_of_ble_eq_true rfl) rfl rfl rfl (fun q2 => ?_)
  refine jr_iconst F dX4_unlearn_5 ?_
  refine jr_isub F dX4_unlearn_6 ?_
  refine jr_putIx F dX4_unlearn_7 fp_X4_18 (Nat.le_of_ble_eq_true rfl) rfl rfl (by omega) (fun w7 e7 => ?_)
  refine jr_aload_n F dX4_unlearn_10 rfl ?_
  refine jr_getIx F (w 11 2 - 1) dX4_unlearn_11 fg_X4_18 (Nat.le_of_ble_eq_true rfl) rfl rfl (by subst e7; rfl) (fun q11 => ?_)
  exact jr_iret F dX4_unlearn_14 (pI_of (by first | rfl | omega) (by subst e7; first | rfl | omega))

set_option maxRecDepth 100000 in
set_option maxHeartbeats 4000000 in
theorem c_X4_learn_11 {B : Bs} {w : Wd}  (h : 0 ≤ w 11 2 ∧ w 11 2 < 6) (hp : 0 ≤ w 18 1 ∧ w 18 1 ≤ 60) : Sp (GX B) 2 yX4_learn cX4_learn 3 (Option.some FieldType.int) [.ref (ga (GX B) (11)), .ref (ga (GX B) (18))] w (pI (up (up (cpB w 12 (w 11 2 * 60) (w 18 1).toNat) 13 (w 11 2) (w 18 1)) 11 2 (w 11 2 + 1)) (w 11 2 + 1)) := by
  refine Sp.of (by decide) (Nat.le_of_ble_eq_true rfl) (fun X F => ?_)
  show Jw (GX B) X _ 0 [some (.ref (ga (GX B) (11))), some (.ref (ga (GX B) (18)))] [] w
  refine jr_iconst F dX4_learn_0 ?_
  refine jr_istore_n F dX4_learn_1 (Nat.le_of_ble_eq_true rfl) rfl ?_
  have L2 : ∀ (fuel : Nat) (u : Wd) (i : Int), (w 18 1 - i).toNat < fuel → (0 ≤ i) → (i ≤ w 18 1) → (u = cpB w 12 (w 11 2 * 60) i.toNat) → Jw (GX B) X (pI (up (up (cpB w 12 (w 11 2 * 60) (w 18 1).toNat) 13 (w 11 2) (w 18 1)) 11 2 (w 11 2 + 1)) (w 11 2 + 1)) 2 [some (.ref (ga (GX B) 11)), some (.ref (ga (GX B) 18)), some (iv i)] [] u := by
    intro fuel
    induction fuel with
    | zero => intro u i hfuel; exact absurd hfuel (Nat.not_lt_zero _)
    | succ fuel ih2 =>
        intro u i hfuel h0 h1 hu
        refine jr_ok (fun hO => ?_)
        have u1 : u 18 = w 18 := by subst hu; exact cpB_c w 12 _ (by decide) _
        have u2 : u 11 = w 11 := by subst hu; exact cpB_c w 12 _ (by decide) _
        have u3 : u 19 = w 19 := by subst hu; exact cpB_c w 12 _ (by decide) _
        refine jr_iload_n F dX4_learn_2 rfl ?_
        refine jr_aload_n F dX4_learn_3 rfl ?_
        refine jr_vI F dX4_learn_4 cv_X4_22 (c_X2_size) (Nat.le_of_ble_eq_true rfl) rfl rfl rfl rfl (Nat.le_of_ble_eq_true rfl) (Nat.le_of_ble_eq_true rfl) rfl (Nat.le_of_ble_eq_true rfl) ?_
        refine jr_ti (b := (w 18 1)) (by rw [u1]) ?_
        refine jr_icmp_ge (tgt := 37) F dX4_learn_7 (by decide) (fun c7 => ?_) (fun c7 => ?_) (by omega) (by omega)
        · skip
          refine jr_aload_n F dX4_learn_37 rfl ?_
          refine jr_getR (t := 13) F dX4_learn_38 fg_X4_15 (Nat.le_of_ble_eq_true rfl) rfl rfl ?_
          refine jr_aload_n F dX4_learn_41 rfl ?_
          refine jr_getIx F (w 11 2) dX4_learn_42 fg_X4_18 (Nat.le_of_ble_eq_true rfl) rfl rfl (congrFun u2 2) (fun q42 => ?_)
          refine jr_aload_n F dX4_learn_45 rfl ?_
          refine jr_vI F dX4_learn_46 cv_X4_22 (c_X2_size) (Nat.le_of_ble_eq_true rfl) rfl rfl rfl rfl (Nat.le_of_ble_eq_true rfl) (Nat.le_of_ble_eq_true rfl) rfl (Nat.le_of_ble_eq_true rfl) ?_
          refine jr_ti (b := (w 18 1)) (by rw [u1]) ?_
          refine jr_nVx F dX4_learn_49 cn_X4_31 (c_put_in (Nat.le_of_ble_eq_true rfl) rfl (by omega) (by omega) (by omega) (by omega)) rfl (Nat.le_of_ble_eq_true rfl) (Nat.le_of_ble_eq_true rfl) rfl (Nat.le_of_ble_eq_true rfl) (fun w49 e49 => ?_)
          refine jr_aload_n F dX4_learn_52 rfl ?_
          refine jr_dup F dX4_learn_53 rfl ?_
          refine jr_getIx F (w 11 2) dX4_learn_54 fg_X4_18 (Nat.le_of_ble_eq_true rfl) rfl rfl (by rw [e49, up_cell (by decide)]; exact congrFun u2 2) (fun q54 => ?_)
          refine jr_iconst F dX4_learn_57 ?_
          refine jr_iadd F dX4_learn_58 ?_
          refine jr_putIx F dX4_learn_59 fp_X4_18 (Nat.le_of_ble_eq_true rfl) rfl rfl (by omega) (fun w59 e59 => ?_)
          refine jr_aload_n F dX4_learn_62 rfl ?_
          refine jr_getIx F (w 11 2 + 1) dX4_learn_63 fg_X4_18 (Nat.le_of_ble_eq_true rfl) rfl rfl (by subst e59; rfl) (fun q63 => ?_)
          exact jr_iret F dX4_learn_66 (pI_of rfl (by subst e59; subst e49; subst hu; rw [show i = w 18 1 by omega]; rfl))
        · skip
          refine jr_aload_n F dX4_learn_10 rfl ?_
          refine jr_getR (t := 12) F dX4_learn_11 fg_X4_9 (Nat.le_of_ble_eq_true rfl) rfl rfl ?_
          refine jr_aload_n F dX4_learn_14 rfl ?_
          refine jr_getIx F (w 11 2) dX4_learn_15 fg_X4_18 (Nat.le_of_ble_eq_true rfl) rfl rfl (congrFun u2 2) (fun q15 => ?_)
          refine jr_bipush F dX4_learn_18 (by decide) ?_
          refine jr_imul F dX4_learn_20 ?_
          refine jr_iload_n F dX4_learn_21 rfl ?_
          refine jr_iadd F dX4_learn_22 ?_
          refine jr_aload_n F dX4_learn_23 rfl ?_
          refine jr_iload_n F dX4_learn_24 rfl ?_
          refine jr_vI F dX4_learn_25 cv_X4_27 (c_X2_letterAt (by omega)) (Nat.le_of_ble_eq_true rfl) rfl rfl rfl rfl (Nat.le_of_ble_eq_true rfl) (Nat.le_of_ble_eq_true rfl) rfl (Nat.le_of_ble_eq_true rfl) ?_
          refine jr_ti (b := (w 19 i)) (by rw [pgl_in (by omega) (by omega), u3]) ?_
          have lr := pgl_R hO i
          refine jr_nVx F dX4_learn_28 cn_X4_31 (c_put_in (Nat.le_of_ble_eq_true rfl) rfl (by omega) (by omega) (by omega) (by have := pgl_R hO i; rw [pgl_in (by omega) (by omega), u3] at this; exact this)) rfl (Nat.le_of_ble_eq_true rfl) (Nat.le_of_ble_eq_true rfl) rfl (Nat.le_of_ble_eq_true rfl) (fun w28 e28 => ?_)
          refine jr_iinc F dX4_learn_31 rfl (Nat.le_of_ble_eq_true rfl) rfl ?_
          refine jr_goto (tgt := 2) F dX4_learn_34 (by decide) ?_
          exact jr_sub (ih2 _ (i + 1) (by omega) (by omega) (by omega) (by subst e28; subst hu; rw [cpB_s h0])) ⟨rfl, rfl, rfl, trivial⟩
  exact jr_sub (L2 _ _ 0 (Nat.lt_succ_self _) (by omega) (by omega) rfl) ⟨rfl, rfl, rfl, trivial⟩

set_option maxRecDepth 100000 in
set_option maxHeartbeats 4000000 in
theorem c_X4_says_11 {B : Bs} {w : Wd} {act d : Int} (h6 : 0 ≤ w 11 2 ∧ w 11 2 ≤ 6) (ha : inR act) (hL : ∀ p : Int, -1 ≤ rd w 12 360 p ∧ rd w 12 360 p ≤ 126) (hN : ∀ p : Int, -1 ≤ rd w 13 6 p ∧ rd w 13 6 p ≤ 60) : Sp (GX B) 3 yX4_says cX4_says 7 (Option.some FieldType.int) [.ref (ga (GX B) (11)), iv (act), .ref (ga (GX B) (17)), iv (d)] w (pE (fun r u => r = sayT (rd w 12 360) (rd w 13 6) (valv w) act d (w 11 2).toNat ∧ z17 w u)) := by
  refine Sp.of (by decide) (Nat.le_of_ble_eq_true rfl) (fun X F => ?_)
  show Jw (GX B) X _ 0 [some (.ref (ga (GX B) (11))), some (iv (act)), some (.ref (ga (GX B) (17))), some (iv (d))] [] w
  refine jr_aload_n F dX4_says_0 rfl ?_
  refine jr_getIx F (w 11 2) dX4_says_1 fg_X4_18 (Nat.le_of_ble_eq_true rfl) rfl rfl rfl (fun q1 => ?_)
  refine jr_iconst F dX4_says_4 ?_
  refine jr_isub F dX4_says_5 ?_
  refine jr_istore F dX4_says_6 (Nat.le_of_ble_eq_true rfl) rfl ?_
  have L8 : ∀ (fuel : Nat) (u : Wd) (i : Int), (i + 1).toNat < fuel → (-1 ≤ i ∧ i < w 11 2) → (z17 w u) → (sayT (rd w 12 360) (rd w 13 6) (valv w) act d (w 11 2).toNat = sayT (rd w 12 360) (rd w 13 6) (valv w) act d (i + 1).toNat) → Jw (GX B) X (pE (fun r u => r = sayT (rd w 12 360) (rd w 13 6) (valv w) act d (w 11 2).toNat ∧ z17 w u)) 8 [some (.ref (ga (GX B) 11)), some (iv act), some (.ref (ga (GX B) 17)), some (iv d), some (iv i)] [] u := by
    intro fuel
    induction fuel with
    | zero => intro u i hfuel; exact absurd hfuel (Nat.not_lt_zero _)
    | succ fuel ih8 =>
        intro u i hfuel h0 hz hv
        have zv := z17_v hz
        have zL : rd u 12 360 = rd w 12 360 := z17_rd hz (by decide) _
        have zN : rd u 13 6 = rd w 13 6 := z17_rd hz (by decide) _
        have Li := hL (i * 60)
        have Ni := hN i
        refine jr_iload F dX4_says_8 rfl ?_
        refine jr_if_lt (tgt := 93) F dX4_says_10 (by decide) (fun c10 => ?_) (fun c10 => ?_) (by omega)
        · skip
          refine jr_iload_n F dX4_says_93 rfl ?_
          exact jr_iret F dX4_says_94 (pE_of ⟨by rw [hv, show (i + 1).toNat = 0 by omega]; rfl, hz⟩)
        · skip
          refine jr_iload F dX4_says_13 rfl ?_
          refine jr_bipush F dX4_says_15 (by decide) ?_
          refine jr_imul F dX4_says_17 ?_
          refine jr_istore F dX4_says_18 (Nat.le_of_ble_eq_true rfl) rfl ?_
          refine jr_aload_n F dX4_says_20 rfl ?_
          refine jr_getR (t := 12) F dX4_says_21 fg_X4_9 (Nat.le_of_ble_eq_true rfl) rfl rfl ?_
          refine jr_iload F dX4_says_24 rfl ?_
          refine jr_nI F dX4_says_26 cn_X4_35 (c_X7_at (Nat.le_of_ble_eq_true rfl) rfl (by omega) (by omega)) rfl (Nat.le_of_ble_eq_true rfl) (Nat.le_of_ble_eq_true rfl) rfl (Nat.le_of_ble_eq_true rfl) ?_
          refine jr_ti (b := ((rd w 12 360) (i * 60))) (congrFun zL _) ?_
          refine jr_iload_n F dX4_says_29 rfl ?_
          refine jr_icmp_ne (tgt := 64) F dX4_says_30 (by decide) (fun c30 => ?_) (fun c30 => ?_) (by omega) (by omega)
          · skip
            refine jr_iconst F dX4_says_64 ?_
            refine jr_istore F dX4_says_65 (Nat.le_of_ble_eq_true rfl) rfl ?_
            refine jr_iload F dX4_says_67 rfl ?_
            refine jr_if_eq (tgt := 87) F dX4_says_69 (by decide) (fun c69 => ?_) (fun c69 => ?_) (by omega)
            · skip
              refine jr_iinc F dX4_says_87 rfl (Nat.le_of_ble_eq_true rfl) rfl ?_
              refine jr_goto (tgt := 8) F dX4_says_90 (by decide) ?_
              exact jr_sub (ih8 _ (i + (-1)) (by omega) (by omega) hz (by rw [hv, sayT_n (by omega) (by intro q; exact c30 q.1)]; congr 1; omega)) ⟨rfl, rfl, rfl, rfl, rfl, trivial⟩
            · exact absurd c69 (by omega)
          · skip
            refine jr_aload_n F dX4_says_33 rfl ?_
            refine jr_aload_n F dX4_says_34 rfl ?_
            refine jr_getR (t := 12) F dX4_says_35 fg_X4_9 (Nat.le_of_ble_eq_true rfl) rfl rfl ?_
            refine jr_iload F dX4_says_38 rfl ?_
            refine jr_iconst F dX4_says_40 ?_
            refine jr_iadd F dX4_says_41 ?_
            refine jr_iload F dX4_says_42 rfl ?_
            refine jr_aload_n F dX4_says_44 rfl ?_
            refine jr_getR (t := 13) F dX4_says_45 fg_X4_15 (Nat.le_of_ble_eq_true rfl) rfl rfl ?_
            refine jr_iload F dX4_says_48 rfl ?_
            refine jr_nI F dX4_says_50 cn_X4_35 (c_X7_at (Nat.le_of_ble_eq_true rfl) rfl (by omega) (by omega)) rfl (Nat.le_of_ble_eq_true rfl) (Nat.le_of_ble_eq_true rfl) rfl (Nat.le_of_ble_eq_true rfl) ?_
            refine jr_ti (b := ((rd w 13 6) i)) (congrFun zN _) ?_
            refine jr_iadd F dX4_says_53 ?_
            refine jr_vB F dX4_says_54 cv_X4_39 (c_X5_meets_12 (by omega) (by omega) (by omega) (by rw [zL]; exact hL)) (Nat.le_of_ble_eq_true rfl) rfl rfl rfl rfl (Nat.le_of_ble_eq_true rfl) (Nat.le_of_ble_eq_true rfl) rfl (Nat.le_of_ble_eq_true rfl) (fun w54 h54 => ?_)
            obtain ⟨q54, e54⟩ := h54
            refine jr_ifeq_b (tgt := 64) F dX4_says_57 (by decide) (fun c57 => ?_) (fun c57 => ?_)
            · skip
              refine jr_iconst F dX4_says_64 ?_
              refine jr_istore F dX4_says_65 (Nat.le_of_ble_eq_true rfl) rfl ?_
              refine jr_iload F dX4_says_67 rfl ?_
              refine jr_if_eq (tgt := 87) F dX4_says_69 (by decide) (fun c69 => ?_) (fun c69 => ?_) (by omega)
              · skip
                refine jr_iinc F dX4_says_87 rfl (Nat.le_of_ble_eq_true rfl) rfl ?_
                refine jr_goto (tgt := 8) F dX4_says_90 (by decide) ?_
                exact jr_sub (ih8 _ (i + (-1)) (by omega) (by omega) (by rw [e54]; exact z17_s hz q54) (by rw [hv, sayT_n (by omega) (by rw [← zv, ← zL]; intro q; exact c57 q.2)]; congr 1; omega)) ⟨rfl, rfl, rfl, rfl, rfl, trivial⟩
              · exact absurd c69 (by omega)
            · skip
              refine jr_iconst F dX4_says_60 ?_
              refine jr_goto (tgt := 65) F dX4_says_61 (by decide) ?_
              refine jr_istore F dX4_says_65 (Nat.le_of_ble_eq_true rfl) rfl ?_
              refine jr_iload F dX4_says_67 rfl ?_
              refine jr_if_eq (tgt := 87) F dX4_says_69 (by decide) (fun c69 => ?_) (fun c69 => ?_) (by omega)
              · exact absurd c69 (by omega)
              · skip
                refine jr_aload_n F dX4_says_72 rfl ?_
                refine jr_getR (t := 12) F dX4_says_73 fg_X4_9 (Nat.le_of_ble_eq_true rfl) rfl rfl ?_
                refine jr_iload F dX4_says_76 rfl ?_
                refine jr_iconst F dX4_says_78 ?_
                refine jr_iadd F dX4_says_79 ?_
                refine jr_nI F dX4_says_80 cn_X4_35 (c_X7_at (Nat.le_of_ble_eq_true rfl) rfl (by omega) (by omega)) rfl (Nat.le_of_ble_eq_true rfl) (Nat.le_of_ble_eq_true rfl) rfl (Nat.le_of_ble_eq_true rfl) ?_
                refine jr_ti (b := ((rd w 12 360) (i * 60 + 2))) (by rw [e54, rd_c (s17_c u q54 (by decide))]; exact congrFun zL _) ?_
                refine jr_bipush F dX4_says_83 (by decide) ?_
                refine jr_isub F dX4_says_85 ?_
                exact jr_iret F dX4_says_86 (pE_of ⟨by rw [hv, sayT_y (by omega) ⟨c30, by rw [← zv, ← zL]; exact c57⟩], by rw [e54]; exact z17_s hz q54⟩)
  exact jr_sub (L8 _ _ (w 11 2 - 1) (Nat.lt_succ_self _) (by omega) (z17_r w) (by rw [show w 11 2 - 1 + 1 = w 11 2 by omega])) ⟨rfl, rfl, rfl, rfl, rfl, trivial⟩

set_option maxRecDepth 100000 in
set_option maxHeartbeats 4000000 in
theorem c_X4_size_14 {B : Bs} {w : Wd}   : Sp (GX B) 0 yX4_size cX4_size 1 (Option.some FieldType.int) [.ref (ga (GX B) (14))] w (pI w (w 14 2)) := by
  refine Sp.of (by decide) (Nat.le_of_ble_eq_true rfl) (fun X F => ?_)
  show Jw (GX B) X _ 0 [some (.ref (ga (GX B) (14)))] [] w
  refine jr_aload_n F dX4_size_0 rfl ?_
  refine jr_getIx F (w 14 2) dX4_size_1 fg_X4_18 (Nat.le_of_ble_eq_true rfl) rfl rfl rfl (fun q1 => ?_)
  exact jr_iret F dX4_size_4 (pI_of (by first | rfl | omega) rfl)

set_option maxRecDepth 100000 in
set_option maxHeartbeats 4000000 in
theorem c_X4_isFull_14 {B : Bs} {w : Wd}   : Sp (GX B) 0 yX4_isFull cX4_isFull 1 (Option.some FieldType.boolean) [.ref (ga (GX B) (14))] w (pI w (bi (6 ≤ w 14 2))) := by
  refine Sp.of (by decide) (Nat.le_of_ble_eq_true rfl) (fun X F => ?_)
  show Jw (GX B) X _ 0 [some (.ref (ga (GX B) (14)))] [] w
  refine jr_aload_n F dX4_isFull_0 rfl ?_
  refine jr_getIx F (w 14 2) dX4_isFull_1 fg_X4_18 (Nat.le_of_ble_eq_true rfl) rfl rfl rfl (fun q1 => ?_)
  refine jr_bipush F dX4_isFull_4 (by decide) ?_
  refine jr_icmp_lt (tgt := 13) F dX4_isFull_6 (by decide) (fun c6 => ?_) (fun c6 => ?_) (by omega) (by omega)
  · skip
    refine jr_iconst F dX4_isFull_13 ?_
    exact jr_zret F dX4_isFull_14 (pI_of (bi_f (by omega)).symm rfl) (by omega)
  · skip
    refine jr_iconst F dX4_isFull_9 ?_
    refine jr_goto (tgt := 14) F dX4_isFull_10 (by decide) ?_
    exact jr_zret F dX4_isFull_14 (pI_of (bi_t (by omega)).symm rfl) (by omega)

set_option maxRecDepth 100000 in
set_option maxHeartbeats 4000000 in
theorem c_X4_unlearn_14 {B : Bs} {w : Wd}  (h : 0 < w 14 2 ∧ w 14 2 ≤ 6) : Sp (GX B) 0 yX4_unlearn cX4_unlearn 1 (Option.some FieldType.int) [.ref (ga (GX B) (14))] w (pI (up w 14 2 (w 14 2 - 1)) (w 14 2 - 1)) := by
  refine Sp.of (by decide) (Nat.le_of_ble_eq_true rfl) (fun X F => ?_)
  show Jw (GX B) X _ 0 [some (.ref (ga (GX B) (14)))] [] w
  refine jr_aload_n F dX4_unlearn_0 rfl ?_
  refine jr_dup F dX4_unlearn_1 rfl ?_
  refine jr_getIx F (w 14 2) dX4_unlearn_2 fg_X4_18 (Nat.le_of_ble_eq_true rfl) rfl rfl rfl (fun q2 => ?_)
  refine jr_iconst F dX4_unlearn_5 ?_
  refine jr_isub F dX4_unlearn_6 ?_
  refine jr_putIx F dX4_unlearn_7 fp_X4_18 (Nat.le_of_ble_eq_true rfl) rfl rfl (by omega) (fun w7 e7 => ?_)
  refine jr_aload_n F dX4_unlearn_10 rfl ?_
  refine jr_getIx F (w 14 2 - 1) dX4_unlearn_11 fg_X4_18 (Nat.le_of_ble_eq_true rfl) rfl rfl (by subst e7; rfl) (fun q11 => ?_)
  exact jr_iret F dX4_unlearn_14 (pI_of (by first | rfl | omega) (by subst e7; first | rfl | omega))

set_option maxRecDepth 100000 in
set_option maxHeartbeats 4000000 in
theorem c_X4_learn_14 {B : Bs} {w : Wd}  (h : 0 ≤ w 14 2 ∧ w 14 2 < 6) (hp : 0 ≤ w 18 1 ∧ w 18 1 ≤ 60) : Sp (GX B) 2 yX4_learn cX4_learn 3 (Option.some FieldType.int) [.ref (ga (GX B) (14)), .ref (ga (GX B) (18))] w (pI (up (up (cpB w 15 (w 14 2 * 60) (w 18 1).toNat) 16 (w 14 2) (w 18 1)) 14 2 (w 14 2 + 1)) (w 14 2 + 1)) := by
  refine Sp.of (by decide) (Nat.le_of_ble_eq_true rfl) (fun X F => ?_)
  show Jw (GX B) X _ 0 [some (.ref (ga (GX B) (14))), some (.ref (ga (GX B) (18)))] [] w
  refine jr_iconst F dX4_learn_0 ?_
  refine jr_istore_n F dX4_learn_1 (Nat.le_of_ble_eq_true rfl) rfl ?_
  have L2 : ∀ (fuel : Nat) (u : Wd) (i : Int), (w 18 1 - i).toNat < fuel → (0 ≤ i) → (i ≤ w 18 1) → (u = cpB w 15 (w 14 2 * 60) i.toNat) → Jw (GX B) X (pI (up (up (cpB w 15 (w 14 2 * 60) (w 18 1).toNat) 16 (w 14 2) (w 18 1)) 14 2 (w 14 2 + 1)) (w 14 2 + 1)) 2 [some (.ref (ga (GX B) 14)), some (.ref (ga (GX B) 18)), some (iv i)] [] u := by
    intro fuel
    induction fuel with
    | zero => intro u i hfuel; exact absurd hfuel (Nat.not_lt_zero _)
    | succ fuel ih2 =>
        intro u i hfuel h0 h1 hu
        refine jr_ok (fun hO => ?_)
        have u1 : u 18 = w 18 := by subst hu; exact cpB_c w 15 _ (by decide) _
        have u2 : u 14 = w 14 := by subst hu; exact cpB_c w 15 _ (by decide) _
        have u3 : u 19 = w 19 := by subst hu; exact cpB_c w 15 _ (by decide) _
        refine jr_iload_n F dX4_learn_2 rfl ?_
        refine jr_aload_n F dX4_learn_3 rfl ?_
        refine jr_vI F dX4_learn_4 cv_X4_22 (c_X2_size) (Nat.le_of_ble_eq_true rfl) rfl rfl rfl rfl (Nat.le_of_ble_eq_true rfl) (Nat.le_of_ble_eq_true rfl) rfl (Nat.le_of_ble_eq_true rfl) ?_
        refine jr_ti (b := (w 18 1)) (by rw [u1]) ?_
        refine jr_icmp_ge (tgt := 37) F dX4_learn_7 (by decide) (fun c7 => ?_) (fun c7 => ?_) (by omega) (by omega)
        · skip
          refine jr_aload_n F dX4_learn_37 rfl ?_
          refine jr_getR (t := 16) F dX4_learn_38 fg_X4_15 (Nat.le_of_ble_eq_true rfl) rfl rfl ?_
          refine jr_aload_n F dX4_learn_41 rfl ?_
          refine jr_getIx F (w 14 2) dX4_learn_42 fg_X4_18 (Nat.le_of_ble_eq_true rfl) rfl rfl (congrFun u2 2) (fun q42 => ?_)
          refine jr_aload_n F dX4_learn_45 rfl ?_
          refine jr_vI F dX4_learn_46 cv_X4_22 (c_X2_size) (Nat.le_of_ble_eq_true rfl) rfl rfl rfl rfl (Nat.le_of_ble_eq_true rfl) (Nat.le_of_ble_eq_true rfl) rfl (Nat.le_of_ble_eq_true rfl) ?_
          refine jr_ti (b := (w 18 1)) (by rw [u1]) ?_
          refine jr_nVx F dX4_learn_49 cn_X4_31 (c_put_in (Nat.le_of_ble_eq_true rfl) rfl (by omega) (by omega) (by omega) (by omega)) rfl (Nat.le_of_ble_eq_true rfl) (Nat.le_of_ble_eq_true rfl) rfl (Nat.le_of_ble_eq_true rfl) (fun w49 e49 => ?_)
          refine jr_aload_n F dX4_learn_52 rfl ?_
          refine jr_dup F dX4_learn_53 rfl ?_
          refine jr_getIx F (w 14 2) dX4_learn_54 fg_X4_18 (Nat.le_of_ble_eq_true rfl) rfl rfl (by rw [e49, up_cell (by decide)]; exact congrFun u2 2) (fun q54 => ?_)
          refine jr_iconst F dX4_learn_57 ?_
          refine jr_iadd F dX4_learn_58 ?_
          refine jr_putIx F dX4_learn_59 fp_X4_18 (Nat.le_of_ble_eq_true rfl) rfl rfl (by omega) (fun w59 e59 => ?_)
          refine jr_aload_n F dX4_learn_62 rfl ?_
          refine jr_getIx F (w 14 2 + 1) dX4_learn_63 fg_X4_18 (Nat.le_of_ble_eq_true rfl) rfl rfl (by subst e59; rfl) (fun q63 => ?_)
          exact jr_iret F dX4_learn_66 (pI_of rfl (by subst e59; subst e49; subst hu; rw [show i = w 18 1 by omega]; rfl))
        · skip
          refine jr_aload_n F dX4_learn_10 rfl ?_
          refine jr_getR (t := 15) F dX4_learn_11 fg_X4_9 (Nat.le_of_ble_eq_true rfl) rfl rfl ?_
          refine jr_aload_n F dX4_learn_14 rfl ?_
          refine jr_getIx F (w 14 2) dX4_learn_15 fg_X4_18 (Nat.le_of_ble_eq_true rfl) rfl rfl (congrFun u2 2) (fun q15 => ?_)
          refine jr_bipush F dX4_learn_18 (by decide) ?_
          refine jr_imul F dX4_learn_20 ?_
          refine jr_iload_n F dX4_learn_21 rfl ?_
          refine jr_iadd F dX4_learn_22 ?_
          refine jr_aload_n F dX4_learn_23 rfl ?_
          refine jr_iload_n F dX4_learn_24 rfl ?_
          refine jr_vI F dX4_learn_25 cv_X4_27 (c_X2_letterAt (by omega)) (Nat.le_of_ble_eq_true rfl) rfl rfl rfl rfl (Nat.le_of_ble_eq_true rfl) (Nat.le_of_ble_eq_true rfl) rfl (Nat.le_of_ble_eq_true rfl) ?_
          refine jr_ti (b := (w 19 i)) (by rw [pgl_in (by omega) (by omega), u3]) ?_
          have lr := pgl_R hO i
          refine jr_nVx F dX4_learn_28 cn_X4_31 (c_put_in (Nat.le_of_ble_eq_true rfl) rfl (by omega) (by omega) (by omega) (by have := pgl_R hO i; rw [pgl_in (by omega) (by omega), u3] at this; exact this)) rfl (Nat.le_of_ble_eq_true rfl) (Nat.le_of_ble_eq_true rfl) rfl (Nat.le_of_ble_eq_true rfl) (fun w28 e28 => ?_)
          refine jr_iinc F dX4_learn_31 rfl (Nat.le_of_ble_eq_true rfl) rfl ?_
          refine jr_goto (tgt := 2) F dX4_learn_34 (by decide) ?_
          exact jr_sub (ih2 _ (i + 1) (by omega) (by omega) (by omega) (by subst e28; subst hu; rw [cpB_s h0])) ⟨rfl, rfl, rfl, trivial⟩
  exact jr_sub (L2 _ _ 0 (Nat.lt_succ_self _) (by omega) (by omega) rfl) ⟨rfl, rfl, rfl, trivial⟩

set_option maxRecDepth 100000 in
set_option maxHeartbeats 4000000 in
theorem c_X4_says_14 {B : Bs} {w : Wd} {act d : Int} (h6 : 0 ≤ w 14 2 ∧ w 14 2 ≤ 6) (ha : inR act) (hL : ∀ p : Int, -1 ≤ rd w 15 360 p ∧ rd w 15 360 p ≤ 126) (hN : ∀ p : Int, -1 ≤ rd w 16 6 p ∧ rd w 16 6 p ≤ 60) : Sp (GX B) 3 yX4_says cX4_says 7 (Option.some FieldType.int) [.ref (ga (GX B) (14)), iv (act), .ref (ga (GX B) (17)), iv (d)] w (pE (fun r u => r = sayT (rd w 15 360) (rd w 16 6) (valv w) act d (w 14 2).toNat ∧ z17 w u)) := by
  refine Sp.of (by decide) (Nat.le_of_ble_eq_true rfl) (fun X F => ?_)
  show Jw (GX B) X _ 0 [some (.ref (ga (GX B) (14))), some (iv (act)), some (.ref (ga (GX B) (17))), some (iv (d))] [] w
  refine jr_aload_n F dX4_says_0 rfl ?_
  refine jr_getIx F (w 14 2) dX4_says_1 fg_X4_18 (Nat.le_of_ble_eq_true rfl) rfl rfl rfl (fun q1 => ?_)
  refine jr_iconst F dX4_says_4 ?_
  refine jr_isub F dX4_says_5 ?_
  refine jr_istore F dX4_says_6 (Nat.le_of_ble_eq_true rfl) rfl ?_
  have L8 : ∀ (fuel : Nat) (u : Wd) (i : Int), (i + 1).toNat < fuel → (-1 ≤ i ∧ i < w 14 2) → (z17 w u) → (sayT (rd w 15 360) (rd w 16 6) (valv w) act d (w 14 2).toNat = sayT (rd w 15 360) (rd w 16 6) (valv w) act d (i + 1).toNat) → Jw (GX B) X (pE (fun r u => r = sayT (rd w 15 360) (rd w 16 6) (valv w) act d (w 14 2).toNat ∧ z17 w u)) 8 [some (.ref (ga (GX B) 14)), some (iv act), some (.ref (ga (GX B) 17)), some (iv d), some (iv i)] [] u := by
    intro fuel
    induction fuel with
    | zero => intro u i hfuel; exact absurd hfuel (Nat.not_lt_zero _)
    | succ fuel ih8 =>
        intro u i hfuel h0 hz hv
        have zv := z17_v hz
        have zL : rd u 15 360 = rd w 15 360 := z17_rd hz (by decide) _
        have zN : rd u 16 6 = rd w 16 6 := z17_rd hz (by decide) _
        have Li := hL (i * 60)
        have Ni := hN i
        refine jr_iload F dX4_says_8 rfl ?_
        refine jr_if_lt (tgt := 93) F dX4_says_10 (by decide) (fun c10 => ?_) (fun c10 => ?_) (by omega)
        · skip
          refine jr_iload_n F dX4_says_93 rfl ?_
          exact jr_iret F dX4_says_94 (pE_of ⟨by rw [hv, show (i + 1).toNat = 0 by omega]; rfl, hz⟩)
        · skip
          refine jr_iload F dX4_says_13 rfl ?_
          refine jr_bipush F dX4_says_15 (by decide) ?_
          refine jr_imul F dX4_says_17 ?_
          refine jr_istore F dX4_says_18 (Nat.le_of_ble_eq_true rfl) rfl ?_
          refine jr_aload_n F dX4_says_20 rfl ?_
          refine jr_getR (t := 15) F dX4_says_21 fg_X4_9 (Nat.le_of_ble_eq_true rfl) rfl rfl ?_
          refine jr_iload F dX4_says_24 rfl ?_
          refine jr_nI F dX4_says_26 cn_X4_35 (c_X7_at (Nat.le_of_ble_eq_true rfl) rfl (by omega) (by omega)) rfl (Nat.le_of_ble_eq_true rfl) (Nat.le_of_ble_eq_true rfl) rfl (Nat.le_of_ble_eq_true rfl) ?_
          refine jr_ti (b := ((rd w 15 360) (i * 60))) (congrFun zL _) ?_
          refine jr_iload_n F dX4_says_29 rfl ?_
          refine jr_icmp_ne (tgt := 64) F dX4_says_30 (by decide) (fun c30 => ?_) (fun c30 => ?_) (by omega) (by omega)
          · skip
            refine jr_iconst F dX4_says_64 ?_
            refine jr_istore F dX4_says_65 (Nat.le_of_ble_eq_true rfl) rfl ?_
            refine jr_iload F dX4_says_67 rfl ?_
            refine jr_if_eq (tgt := 87) F dX4_says_69 (by decide) (fun c69 => ?_) (fun c69 => ?_) (by omega)
            · skip
              refine jr_iinc F dX4_says_87 rfl (Nat.le_of_ble_eq_true rfl) rfl ?_
              refine jr_goto (tgt := 8) F dX4_says_90 (by decide) ?_
              exact jr_sub (ih8 _ (i + (-1)) (by omega) (by omega) hz (by rw [hv, sayT_n (by omega) (by intro q; exact c30 q.1)]; congr 1; omega)) ⟨rfl, rfl, rfl, rfl, rfl, trivial⟩
            · exact absurd c69 (by omega)
          · skip
            refine jr_aload_n F dX4_says_33 rfl ?_
            refine jr_aload_n F dX4_says_34 rfl ?_
            refine jr_getR (t := 15) F dX4_says_35 fg_X4_9 (Nat.le_of_ble_eq_true rfl) rfl rfl ?_
            refine jr_iload F dX4_says_38 rfl ?_
            refine jr_iconst F dX4_says_40 ?_
            refine jr_iadd F dX4_says_41 ?_
            refine jr_iload F dX4_says_42 rfl ?_
            refine jr_aload_n F dX4_says_44 rfl ?_
            refine jr_getR (t := 16) F dX4_says_45 fg_X4_15 (Nat.le_of_ble_eq_true rfl) rfl rfl ?_
            refine jr_iload F dX4_says_48 rfl ?_
            refine jr_nI F dX4_says_50 cn_X4_35 (c_X7_at (Nat.le_of_ble_eq_true rfl) rfl (by omega) (by omega)) rfl (Nat.le_of_ble_eq_true rfl) (Nat.le_of_ble_eq_true rfl) rfl (Nat.le_of_ble_eq_true rfl) ?_
            refine jr_ti (b := ((rd w 16 6) i)) (congrFun zN _) ?_
            refine jr_iadd F dX4_says_53 ?_
            refine jr_vB F dX4_says_54 cv_X4_39 (c_X5_meets_15 (by omega) (by omega) (by omega) (by rw [zL]; exact hL)) (Nat.le_of_ble_eq_true rfl) rfl rfl rfl rfl (Nat.le_of_ble_eq_true rfl) (Nat.le_of_ble_eq_true rfl) rfl (Nat.le_of_ble_eq_true rfl) (fun w54 h54 => ?_)
            obtain ⟨q54, e54⟩ := h54
            refine jr_ifeq_b (tgt := 64) F dX4_says_57 (by decide) (fun c57 => ?_) (fun c57 => ?_)
            · skip
              refine jr_iconst F dX4_says_64 ?_
              refine jr_istore F dX4_says_65 (Nat.le_of_ble_eq_true rfl) rfl ?_
              refine jr_iload F dX4_says_67 rfl ?_
              refine jr_if_eq (tgt := 87) F dX4_says_69 (by decide) (fun c69 => ?_) (fun c69 => ?_) (by omega)
              · skip
                refine jr_iinc F dX4_says_87 rfl (Nat.le_of_ble_eq_true rfl) rfl ?_
                refine jr_goto (tgt := 8) F dX4_says_90 (by decide) ?_
                exact jr_sub (ih8 _ (i + (-1)) (by omega) (by omega) (by rw [e54]; exact z17_s hz q54) (by rw [hv, sayT_n (by omega) (by rw [← zv, ← zL]; intro q; exact c57 q.2)]; congr 1; omega)) ⟨rfl, rfl, rfl, rfl, rfl, trivial⟩
              · exact absurd c69 (by omega)
            · skip
              refine jr_iconst F dX4_says_60 ?_
              refine jr_goto (tgt := 65) F dX4_says_61 (by decide) ?_
              refine jr_istore F dX4_says_65 (Nat.le_of_ble_eq_true rfl) rfl ?_
              refine jr_iload F dX4_says_67 rfl ?_
              refine jr_if_eq (tgt := 87) F dX4_says_69 (by decide) (fun c69 => ?_) (fun c69 => ?_) (by omega)
              · exact absurd c69 (by omega)
              · skip
                refine jr_aload_n F dX4_says_72 rfl ?_
                refine jr_getR (t := 15) F dX4_says_73 fg_X4_9 (Nat.le_of_ble_eq_true rfl) rfl rfl ?_
                refine jr_iload F dX4_says_76 rfl ?_
                refine jr_iconst F dX4_says_78 ?_
                refine jr_iadd F dX4_says_79 ?_
                refine jr_nI F dX4_says_80 cn_X4_35 (c_X7_at (Nat.le_of_ble_eq_true rfl) rfl (by omega) (by omega)) rfl (Nat.le_of_ble_eq_true rfl) (Nat.le_of_ble_eq_true rfl) rfl (Nat.le_of_ble_eq_true rfl) ?_
                refine jr_ti (b := ((rd w 15 360) (i * 60 + 2))) (by rw [e54, rd_c (s17_c u q54 (by decide))]; exact congrFun zL _) ?_
                refine jr_bipush F dX4_says_83 (by decide) ?_
                refine jr_isub F dX4_says_85 ?_
                exact jr_iret F dX4_says_86 (pE_of ⟨by rw [hv, sayT_y (by omega) ⟨c30, by rw [← zv, ← zL]; exact c57⟩], by rw [e54]; exact z17_s hz q54⟩)
  exact jr_sub (L8 _ _ (w 14 2 - 1) (Nat.lt_succ_self _) (by omega) (z17_r w) (by rw [show w 14 2 - 1 + 1 = w 14 2 by omega])) ⟨rfl, rfl, rfl, rfl, rfl, trivial⟩

