noncomputable def bsI (P : Int → Prop) (i : Int) : Int := ((bs (fun k : Nat => P (k : Int)) i.toNat : Nat) : Int)
theorem bsI_0 (P : Int → Prop) : bsI P 0 = 0 := rfl
theorem bsI_R (P : Int → Prop) {i : Int} (n : Nat) (h1 : i ≤ n) : 0 ≤ bsI P i ∧ bsI P i < ((2 ^ n : Nat) : Int) := by
  have h := bs_lt (fun k : Nat => P (k : Int)) i.toNat
  have h2 : 2 ^ i.toNat ≤ 2 ^ n := Nat.pow_le_pow_right (by omega) (by omega)
  unfold bsI
  omega
theorem bsI_R10 (P : Int → Prop) {i : Int} (h1 : i ≤ 10) : 0 ≤ bsI P i ∧ bsI P i < 1024 := bsI_R P 10 h1
theorem bsI_t {P : Int → Prop} {i : Int} (h0 : 0 ≤ i) (h : P i) : bsI P (i + 1) = (((bsI P i).toNat ||| 2 ^ i.toNat : Nat) : Int) := by
  unfold bsI
  rw [show (i + 1).toNat = i.toNat + 1 by omega, bs_t (by show P ((i.toNat : Nat) : Int); rw [Int.toNat_of_nonneg h0]; exact h), Int.toNat_natCast]
theorem bsI_f {P : Int → Prop} {i : Int} (h0 : 0 ≤ i) (h : ¬ P i) : bsI P (i + 1) = bsI P i := by
  unfold bsI
  rw [show (i + 1).toNat = i.toNat + 1 by omega, bs_f (by show ¬ P ((i.toNat : Nat) : Int); rw [Int.toNat_of_nonneg h0]; exact h)]
theorem bsI_bit {P : Int → Prop} {i k : Int} (hk : 0 ≤ k) : (bsI P i).toNat.testBit k.toNat = true ↔ k < i ∧ P k := by
  unfold bsI
  rw [Int.toNat_natCast, bs_bit, Int.toNat_of_nonneg hk]
  constructor
  · rintro ⟨a, b⟩; exact ⟨by omega, b⟩
  · rintro ⟨a, b⟩; exact ⟨by omega, b⟩
theorem b_orT {P : Int → Prop} {i : Int} (h0 : 0 ≤ i) (h30 : i ≤ 30) (h : P i) : Int32.ofInt (bsI P i) ||| (Int32.ofInt 1 <<< (Int32.ofInt i &&& 31)) = Int32.ofInt (bsI P (i + 1)) := by
  have h1 := bsI_R P (i := i) 30 (by omega)
  have h2 : (2 : Nat) ^ i.toNat ≤ 2 ^ 30 := Nat.pow_le_pow_right (by omega) (by omega)
  rw [b_shl1 ⟨h0, h30⟩, bsI_t h0 h]
  generalize (2 : Nat) ^ i.toNat = p at h2 ⊢
  rw [b_or (by omega) (by omega), Int.toNat_natCast]
theorem b_orF {P : Int → Prop} {i : Int} (h0 : 0 ≤ i) (h30 : i ≤ 30) (h : ¬ P i) : Int32.ofInt (bsI P i) ||| Int32.ofInt 0 = Int32.ofInt (bsI P (i + 1)) := by
  have h1 := bsI_R P (i := i) 30 (by omega)
  rw [b_or (by omega) (by omega), bsI_f h0 h, show (0 : Int).toNat = 0 from rfl, Nat.or_zero, Int.toNat_of_nonneg h1.1]
noncomputable def dgF (w : Wd) (r : Int) : Nat → Int → Int
  | 0, h => h
  | f + 1, h => 31 * dgF w r f h + fa w r (f : Nat)
noncomputable def dgR (w : Wd) : Nat → Int → Int
  | 0, h => h
  | r + 1, h => 31 * dgF w (r : Nat) 6 (dgR w r h) + td w (r : Nat)
theorem dgF_s {w : Wd} {r f h : Int} (h0 : 0 ≤ f) : dgF w r (f + 1).toNat h = 31 * dgF w r f.toNat h + fa w r f := by
  rw [show (f + 1).toNat = f.toNat + 1 by omega, dgF, Int.toNat_of_nonneg h0]
theorem dgR_s {w : Wd} {r h : Int} (h0 : 0 ≤ r) : dgR w (r + 1).toNat h = 31 * dgF w r 6 (dgR w r.toNat h) + td w r := by
  rw [show (r + 1).toNat = r.toNat + 1 by omega, dgR, Int.toNat_of_nonneg h0]

set_option maxRecDepth 100000 in
set_option maxHeartbeats 4000000 in
theorem c_X3_knownBits {B : Bs} {w : Wd} {e : Int} (h3 : 0 ≤ w 1 3 ∧ w 1 3 ≤ 10) (he : inR e) : Sp (GX B) 3 yX3_knownBits cX3_knownBits 4 (Option.some FieldType.int) [.ref (ga (GX B) (1)), iv (e)] w (pI w (bsI (fun k => fa w k 4 ≤ e) (w 1 3))) := by
  refine Sp.of (by decide) (Nat.le_of_ble_eq_true rfl) (fun X F => ?_)
  show Jw (GX B) X _ 0 [some (.ref (ga (GX B) (1))), some (iv (e))] [] w
  refine jr_iconst F dX3_knownBits_0 ?_
  refine jr_istore_n F dX3_knownBits_1 (Nat.le_of_ble_eq_true rfl) rfl ?_
  refine jr_iconst F dX3_knownBits_2 ?_
  refine jr_istore_n F dX3_knownBits_3 (Nat.le_of_ble_eq_true rfl) rfl ?_
  have L4 : ∀ (fuel : Nat) (i : Int) (z : Int), (w 1 3 - i).toNat < fuel → (0 ≤ i) → (i ≤ w 1 3) → (z = bsI (fun k => fa w k 4 ≤ e) i) → Jw (GX B) X (pI w (bsI (fun k => fa w k 4 ≤ e) (w 1 3))) 4 [some (.ref (ga (GX B) 1)), some (iv e), some (iv z), some (iv i)] [] w := by
    intro fuel
    induction fuel with
    | zero => intro i z hfuel; exact absurd hfuel (Nat.not_lt_zero _)
    | succ fuel ih4 =>
        intro i z hfuel h0 h1 hz
        refine jr_iload_n F dX3_knownBits_4 rfl ?_
        refine jr_aload_n F dX3_knownBits_5 rfl ?_
        refine jr_getIx F (w 1 3) dX3_knownBits_6 fg_X3_21 (Nat.le_of_ble_eq_true rfl) rfl rfl rfl (fun q6 => ?_)
        refine jr_icmp_ge (tgt := 37) F dX3_knownBits_9 (by decide) (fun c9 => ?_) (fun c9 => ?_) (by omega) (by omega)
        · skip
          refine jr_iload_n F dX3_knownBits_37 rfl ?_
          exact jr_iret F dX3_knownBits_38 (pI_of (by rw [hz, show i = w 1 3 by omega]) rfl)
        · skip
          refine jr_iload_n F dX3_knownBits_12 rfl ?_
          refine jr_aload_n F dX3_knownBits_13 rfl ?_
          refine jr_iload_n F dX3_knownBits_14 rfl ?_
          refine jr_iload_n F dX3_knownBits_15 rfl ?_
          refine jr_vI F dX3_knownBits_16 cv_X3_55 (c_X3_isKnown (by omega) (by omega) (by omega)) (Nat.le_of_ble_eq_true rfl) rfl rfl rfl rfl (Nat.le_of_ble_eq_true rfl) (Nat.le_of_ble_eq_true rfl) rfl (Nat.le_of_ble_eq_true rfl) ?_
          refine jr_ifeq_b (tgt := 28) F dX3_knownBits_19 (by decide) (fun c19 => ?_) (fun c19 => ?_)
          · skip
            refine jr_iconst F dX3_knownBits_28 ?_
            refine jr_ior F dX3_knownBits_29 ?_
            refine jr_top (z := bsI (fun k => fa w k 4 ≤ e) (i + 1)) F (by rw [hz]; first | exact b_orT h0 (by omega) c19.2.2 | exact b_orF h0 (by omega) (fun q => c19 ⟨h0, by omega, q⟩)) ?_
            refine jr_istore_n F dX3_knownBits_30 (Nat.le_of_ble_eq_true rfl) rfl ?_
            refine jr_iinc F dX3_knownBits_31 rfl (Nat.le_of_ble_eq_true rfl) rfl ?_
            refine jr_goto (tgt := 4) F dX3_knownBits_34 (by decide) ?_
            exact jr_sub (ih4 (i + 1) _ (by omega) (by omega) (by omega) rfl) ⟨rfl, rfl, rfl, rfl, trivial⟩
          · skip
            refine jr_iconst F dX3_knownBits_22 ?_
            refine jr_iload_n F dX3_knownBits_23 rfl ?_
            refine jr_ishl F dX3_knownBits_24 ?_
            refine jr_goto (tgt := 29) F dX3_knownBits_25 (by decide) ?_
            refine jr_ior F dX3_knownBits_29 ?_
            refine jr_top (z := bsI (fun k => fa w k 4 ≤ e) (i + 1)) F (by rw [hz]; first | exact b_orT h0 (by omega) c19.2.2 | exact b_orF h0 (by omega) (fun q => c19 ⟨h0, by omega, q⟩)) ?_
            refine jr_istore_n F dX3_knownBits_30 (Nat.le_of_ble_eq_true rfl) rfl ?_
            refine jr_iinc F dX3_knownBits_31 rfl (Nat.le_of_ble_eq_true rfl) rfl ?_
            refine jr_goto (tgt := 4) F dX3_knownBits_34 (by decide) ?_
            exact jr_sub (ih4 (i + 1) _ (by omega) (by omega) (by omega) rfl) ⟨rfl, rfl, rfl, rfl, trivial⟩
  exact jr_sub (L4 _ 0 0 (Nat.lt_succ_self _) (by omega) (by omega) rfl) ⟨rfl, rfl, rfl, rfl, trivial⟩

set_option maxRecDepth 100000 in
set_option maxHeartbeats 4000000 in
theorem c_X3_digestOn {B : Bs} {w : Wd} {h : Int} (h3 : 0 ≤ w 1 3 ∧ w 1 3 ≤ 10) : Sp (GX B) 2 yX3_digestOn cX3_digestOn 7 (Option.some FieldType.long) [.ref (ga (GX B) (1)), lq (h)] w (pL w (dgR w (w 1 3).toNat h)) := by
  refine Sp.of (by decide) (Nat.le_of_ble_eq_true rfl) (fun X F => ?_)
  refine jr_ok (fun hO => ?_)
  show Jw (GX B) X _ 0 [some (.ref (ga (GX B) (1))), some (lq (h)), none] [] w
  refine jr_lload_n F dX3_digestOn_0 rfl ?_
  refine jr_lstore_n F dX3_digestOn_1 (Nat.le_of_ble_eq_true rfl) rfl ?_
  refine jr_iconst F dX3_digestOn_2 ?_
  refine jr_istore F dX3_digestOn_3 (Nat.le_of_ble_eq_true rfl) rfl ?_
  have L5 : ∀ (fuel : Nat) (i : Int) (z : Int), (w 1 3 - i).toNat < fuel → (0 ≤ i) → (i ≤ w 1 3) → (z = dgR w i.toNat h) → Jw (GX B) X (pL w (dgR w (w 1 3).toNat h)) 5 [some (.ref (ga (GX B) 1)), some (lq h), none, some (lq z), none, some (iv i)] [] w := by
    intro fuel
    induction fuel with
    | zero => intro i z hfuel; exact absurd hfuel (Nat.not_lt_zero _)
    | succ fuel ih5 =>
        intro i z hfuel h0 h1 hz
        refine jr_iload F dX3_digestOn_5 rfl ?_
        refine jr_aload_n F dX3_digestOn_7 rfl ?_
        refine jr_getIx F (w 1 3) dX3_digestOn_8 fg_X3_21 (Nat.le_of_ble_eq_true rfl) rfl rfl rfl (fun q8 => ?_)
        refine jr_icmp_ge (tgt := 66) F dX3_digestOn_11 (by decide) (fun c11 => ?_) (fun c11 => ?_) (by omega) (by omega)
        · skip
          refine jr_lload_n F dX3_digestOn_66 rfl ?_
          exact jr_lret F dX3_digestOn_67 (pL_of (by rw [hz, show i = w 1 3 by omega]) rfl)
        · skip
          refine jr_iconst F dX3_digestOn_14 ?_
          refine jr_istore F dX3_digestOn_15 (Nat.le_of_ble_eq_true rfl) rfl ?_
          have L17 : ∀ (fuel : Nat) (f : Int) (y : Int), (6 - f).toNat < fuel → (0 ≤ f) → (f ≤ 6) → (y = dgF w i f.toNat (dgR w i.toNat h)) → Jw (GX B) X (pL w (dgR w (w 1 3).toNat h)) 17 [some (.ref (ga (GX B) 1)), some (lq h), none, some (lq y), none, some (iv i), some (iv f)] [] w := by
            intro fuel
            induction fuel with
            | zero => intro f y hfuel; exact absurd hfuel (Nat.not_lt_zero _)
            | succ fuel ih17 =>
                intro f y hfuel g0 g1 hy
                refine jr_iload F dX3_digestOn_17 rfl ?_
                refine jr_bipush F dX3_digestOn_19 (by decide) ?_
                refine jr_icmp_ge (tgt := 46) F dX3_digestOn_21 (by decide) (fun c21 => ?_) (fun c21 => ?_) (by omega) (by omega)
                · skip
                  obtain rfl : f = 6 := by omega
                  rw [show (6 : Int).toNat = 6 from rfl] at hy
                  subst hy
                  refine jr_ldc2 (z := 31) F dX3_digestOn_46 (tb_in 873 (by decide +kernel) (by decide +kernel)) ?_
                  refine jr_lload_n F dX3_digestOn_49 rfl ?_
                  refine jr_lmul F dX3_digestOn_50 ?_
                  refine jr_aload_n F dX3_digestOn_51 rfl ?_
                  refine jr_iload F dX3_digestOn_52 rfl ?_
                  refine jr_vI F dX3_digestOn_54 cv_X3_48 (c_X3_toldYear (by omega)) (Nat.le_of_ble_eq_true rfl) rfl rfl rfl rfl (Nat.le_of_ble_eq_true rfl) (Nat.le_of_ble_eq_true rfl) rfl (Nat.le_of_ble_eq_true rfl) ?_
                  refine jr_i2l F dX3_digestOn_57 (td_R hO i) ?_
                  refine jr_ladd F dX3_digestOn_58 ?_
                  refine jr_lstore_n F dX3_digestOn_59 (Nat.le_of_ble_eq_true rfl) rfl ?_
                  refine jr_iinc F dX3_digestOn_60 rfl (Nat.le_of_ble_eq_true rfl) rfl ?_
                  refine jr_goto (tgt := 5) F dX3_digestOn_63 (by decide) ?_
                  exact jr_sub (ih5 (i + 1) _ (by omega) (by omega) (by omega) (by rw [dgR_s h0])) ⟨rfl, rfl, rfl, rfl, trivial⟩
                · skip
                  refine jr_ldc2 (z := 31) F dX3_digestOn_24 (tb_in 873 (by decide +kernel) (by decide +kernel)) ?_
                  refine jr_lload_n F dX3_digestOn_27 rfl ?_
                  refine jr_lmul F dX3_digestOn_28 ?_
                  refine jr_aload_n F dX3_digestOn_29 rfl ?_
                  refine jr_iload F dX3_digestOn_30 rfl ?_
                  refine jr_iload F dX3_digestOn_32 rfl ?_
                  refine jr_vI F dX3_digestOn_34 cv_X3_44 (c_X3_fact (by omega)) (Nat.le_of_ble_eq_true rfl) rfl rfl rfl rfl (Nat.le_of_ble_eq_true rfl) (Nat.le_of_ble_eq_true rfl) rfl (Nat.le_of_ble_eq_true rfl) ?_
                  refine jr_i2l F dX3_digestOn_37 (fa_R hO i f) ?_
                  refine jr_ladd F dX3_digestOn_38 ?_
                  refine jr_lstore_n F dX3_digestOn_39 (Nat.le_of_ble_eq_true rfl) rfl ?_
                  refine jr_iinc F dX3_digestOn_40 rfl (Nat.le_of_ble_eq_true rfl) rfl ?_
                  refine jr_goto (tgt := 17) F dX3_digestOn_43 (by decide) ?_
                  exact jr_sub (ih17 (f + 1) _ (by omega) (by omega) (by omega) (by rw [dgF_s g0, hy])) ⟨rfl, rfl, rfl, rfl, rfl, trivial⟩
          exact jr_sub (L17 _ 0 _ (Nat.lt_succ_self _) (by omega) (by omega) hz) ⟨rfl, rfl, rfl, rfl, rfl, trivial⟩
  exact jr_sub (L5 _ 0 h (Nat.lt_succ_self _) (by omega) (by omega) rfl) ⟨rfl, rfl, rfl, rfl, trivial⟩

noncomputable def addRw (w : Wd) (l k n m e : Int) : Wd := up (up (up (up (up (up (up (up (up (up w 2 (w 1 3 * 6 + 0) l) 2 (w 1 3 * 6 + 1) k) 2 (w 1 3 * 6 + 2) n) 2 (w 1 3 * 6 + 3) m) 2 (w 1 3 * 6 + 4) e) 2 (w 1 3 * 6 + 5) (w 4 l)) 3 (w 1 3) 0) 4 l (w 1 3)) 1 4 (w 1 4 + bi (isMis k))) 1 3 (w 1 3 + 1)

set_option maxRecDepth 100000 in
set_option maxHeartbeats 4000000 in
theorem c_X3_add {B : Bs} {w : Wd} {l k n m e : Int} (h3 : 0 ≤ w 1 3 ∧ w 1 3 < 10) (h4 : 0 ≤ w 1 4 ∧ w 1 4 ≤ 10) (hl : 0 ≤ l ∧ l < 5) (hk : inR k) (hn : inR n) (hm : inR m) (he : inR e) (h5 : inR (w 4 l)) : Sp (GX B) 2 yX3_add cX3_add 7 (Option.some FieldType.int) [.ref (ga (GX B) (1)), iv (l), iv (k), iv (n), iv (m), iv (e)] w (pI (addRw w l k n m e) (w 1 3)) := by
  refine Sp.of (by decide) (Nat.le_of_ble_eq_true rfl) (fun X F => ?_)
  show Jw (GX B) X _ 0 [some (.ref (ga (GX B) (1))), some (iv (l)), some (iv (k)), some (iv (n)), some (iv (m)), some (iv (e))] [] w
  refine jr_aload_n F dX3_add_0 rfl ?_
  refine jr_getIx F (w 1 3) dX3_add_1 fg_X3_21 (Nat.le_of_ble_eq_true rfl) rfl rfl rfl (fun q1 => ?_)
  refine jr_bipush F dX3_add_4 (by decide) ?_
  refine jr_imul F dX3_add_6 ?_
  refine jr_istore F dX3_add_7 (Nat.le_of_ble_eq_true rfl) rfl ?_
  refine jr_aload_n F dX3_add_9 rfl ?_
  refine jr_getR (t := 2) F dX3_add_10 fg_X3_11 (Nat.le_of_ble_eq_true rfl) rfl rfl ?_
  refine jr_iload F dX3_add_13 rfl ?_
  refine jr_iconst F dX3_add_15 ?_
  refine jr_iadd F dX3_add_16 ?_
  refine jr_iload_n F dX3_add_17 rfl ?_
  refine jr_nVx F dX3_add_18 cn_X3_36 (c_put_in (Nat.le_of_ble_eq_true rfl) rfl (by omega) (by omega) (by omega) (by omega)) rfl (Nat.le_of_ble_eq_true rfl) (Nat.le_of_ble_eq_true rfl) rfl (Nat.le_of_ble_eq_true rfl) (fun w18 e18 => ?_)
  refine jr_aload_n F dX3_add_21 rfl ?_
  refine jr_getR (t := 2) F dX3_add_22 fg_X3_11 (Nat.le_of_ble_eq_true rfl) rfl rfl ?_
  refine jr_iload F dX3_add_25 rfl ?_
  refine jr_iconst F dX3_add_27 ?_
  refine jr_iadd F dX3_add_28 ?_
  refine jr_iload_n F dX3_add_29 rfl ?_
  refine jr_nVx F dX3_add_30 cn_X3_36 (c_put_in (Nat.le_of_ble_eq_true rfl) rfl (by omega) (by omega) (by omega) (by omega)) rfl (Nat.le_of_ble_eq_true rfl) (Nat.le_of_ble_eq_true rfl) rfl (Nat.le_of_ble_eq_true rfl) (fun w30 e30 => ?_)
  refine jr_aload_n F dX3_add_33 rfl ?_
  refine jr_getR (t := 2) F dX3_add_34 fg_X3_11 (Nat.le_of_ble_eq_true rfl) rfl rfl ?_
  refine jr_iload F dX3_add_37 rfl ?_
  refine jr_iconst F dX3_add_39 ?_
  refine jr_iadd F dX3_add_40 ?_
  refine jr_iload_n F dX3_add_41 rfl ?_
  refine jr_nVx F dX3_add_42 cn_X3_36 (c_put_in (Nat.le_of_ble_eq_true rfl) rfl (by omega) (by omega) (by omega) (by omega)) rfl (Nat.le_of_ble_eq_true rfl) (Nat.le_of_ble_eq_true rfl) rfl (Nat.le_of_ble_eq_true rfl) (fun w42 e42 => ?_)
  refine jr_aload_n F dX3_add_45 rfl ?_
  refine jr_getR (t := 2) F dX3_add_46 fg_X3_11 (Nat.le_of_ble_eq_true rfl) rfl rfl ?_
  refine jr_iload F dX3_add_49 rfl ?_
  refine jr_iconst F dX3_add_51 ?_
  refine jr_iadd F dX3_add_52 ?_
  refine jr_iload F dX3_add_53 rfl ?_
  refine jr_nVx F dX3_add_55 cn_X3_36 (c_put_in (Nat.le_of_ble_eq_true rfl) rfl (by omega) (by omega) (by omega) (by omega)) rfl (Nat.le_of_ble_eq_true rfl) (Nat.le_of_ble_eq_true rfl) rfl (Nat.le_of_ble_eq_true rfl) (fun w55 e55 => ?_)
  refine jr_aload_n F dX3_add_58 rfl ?_
  refine jr_getR (t := 2) F dX3_add_59 fg_X3_11 (Nat.le_of_ble_eq_true rfl) rfl rfl ?_
  refine jr_iload F dX3_add_62 rfl ?_
  refine jr_iconst F dX3_add_64 ?_
  refine jr_iadd F dX3_add_65 ?_
  refine jr_iload F dX3_add_66 rfl ?_
  refine jr_nVx F dX3_add_68 cn_X3_36 (c_put_in (Nat.le_of_ble_eq_true rfl) rfl (by omega) (by omega) (by omega) (by omega)) rfl (Nat.le_of_ble_eq_true rfl) (Nat.le_of_ble_eq_true rfl) rfl (Nat.le_of_ble_eq_true rfl) (fun w68 e68 => ?_)
  refine jr_aload_n F dX3_add_71 rfl ?_
  refine jr_getR (t := 2) F dX3_add_72 fg_X3_11 (Nat.le_of_ble_eq_true rfl) rfl rfl ?_
  refine jr_iload F dX3_add_75 rfl ?_
  refine jr_iconst F dX3_add_77 ?_
  refine jr_iadd F dX3_add_78 ?_
  refine jr_aload_n F dX3_add_79 rfl ?_
  refine jr_iload_n F dX3_add_80 rfl ?_
  refine jr_vI F dX3_add_81 cv_X3_40 (c_X3_lastOf (by omega)) (Nat.le_of_ble_eq_true rfl) rfl rfl rfl rfl (Nat.le_of_ble_eq_true rfl) (Nat.le_of_ble_eq_true rfl) rfl (Nat.le_of_ble_eq_true rfl) ?_
  refine jr_ti (b := w 4 l) (by subst e68; subst e55; subst e42; subst e30; subst e18; rw [rd_in (by omega) (by omega)]; rfl) ?_
  refine jr_nVx F dX3_add_84 cn_X3_36 (c_put_in (Nat.le_of_ble_eq_true rfl) rfl (by omega) (by omega) (by omega) (by omega)) rfl (Nat.le_of_ble_eq_true rfl) (Nat.le_of_ble_eq_true rfl) rfl (Nat.le_of_ble_eq_true rfl) (fun w84 e84 => ?_)
  refine jr_aload_n F dX3_add_87 rfl ?_
  refine jr_getR (t := 3) F dX3_add_88 fg_X3_15 (Nat.le_of_ble_eq_true rfl) rfl rfl ?_
  refine jr_aload_n F dX3_add_91 rfl ?_
  refine jr_getIx F (w 1 3) dX3_add_92 fg_X3_21 (Nat.le_of_ble_eq_true rfl) rfl rfl (by subst e84; subst e68; subst e55; subst e42; subst e30; subst e18; rfl) (fun q92 => ?_)
  refine jr_iconst F dX3_add_95 ?_
  refine jr_nVx F dX3_add_96 cn_X3_36 (c_put_in (Nat.le_of_ble_eq_true rfl) rfl (by omega) (by omega) (by omega) (by omega)) rfl (Nat.le_of_ble_eq_true rfl) (Nat.le_of_ble_eq_true rfl) rfl (Nat.le_of_ble_eq_true rfl) (fun w96 e96 => ?_)
  refine jr_aload_n F dX3_add_99 rfl ?_
  refine jr_getR (t := 4) F dX3_add_100 fg_X3_18 (Nat.le_of_ble_eq_true rfl) rfl rfl ?_
  refine jr_iload_n F dX3_add_103 rfl ?_
  refine jr_aload_n F dX3_add_104 rfl ?_
  refine jr_getIx F (w 1 3) dX3_add_105 fg_X3_21 (Nat.le_of_ble_eq_true rfl) rfl rfl (by subst e96; subst e84; subst e68; subst e55; subst e42; subst e30; subst e18; rfl) (fun q105 => ?_)
  refine jr_nVx F dX3_add_108 cn_X3_36 (c_put_in (Nat.le_of_ble_eq_true rfl) rfl (by omega) (by omega) (by omega) (by omega)) rfl (Nat.le_of_ble_eq_true rfl) (Nat.le_of_ble_eq_true rfl) rfl (Nat.le_of_ble_eq_true rfl) (fun w108 e108 => ?_)
  refine jr_aload_n F dX3_add_111 rfl ?_
  refine jr_dup F dX3_add_112 rfl ?_
  refine jr_getIx F (w 1 4) dX3_add_113 fg_X3_25 (Nat.le_of_ble_eq_true rfl) rfl rfl (by subst e108; subst e96; subst e84; subst e68; subst e55; subst e42; subst e30; subst e18; rfl) (fun q113 => ?_)
  refine jr_iload_n F dX3_add_116 rfl ?_
  refine jr_iconst F dX3_add_117 ?_
  refine jr_sI F dX3_add_118 cs_X3_32 (c_X3_isOf (by omega) (by omega)) rfl (Nat.le_of_ble_eq_true rfl) (Nat.le_of_ble_eq_true rfl) rfl (Nat.le_of_ble_eq_true rfl) ?_
  refine jr_ifeq_b (tgt := 128) F dX3_add_121 (by decide) (fun c121 => ?_) (fun c121 => ?_)
  · skip
    refine jr_iconst F dX3_add_128 ?_
    refine jr_iadd F dX3_add_129 ?_
    refine jr_putIx F dX3_add_130 fp_X3_25 (Nat.le_of_ble_eq_true rfl) rfl rfl (by omega) (fun w130 e130 => ?_)
    refine jr_aload_n F dX3_add_133 rfl ?_
    refine jr_dup F dX3_add_134 rfl ?_
    refine jr_getIx F (w 1 3) dX3_add_135 fg_X3_21 (Nat.le_of_ble_eq_true rfl) rfl rfl (by subst e130; subst e108; subst e96; subst e84; subst e68; subst e55; subst e42; subst e30; subst e18; rfl) (fun q135 => ?_)
    refine jr_dup_x1 F dX3_add_138 rfl rfl ?_
    refine jr_iconst F dX3_add_139 ?_
    refine jr_iadd F dX3_add_140 ?_
    refine jr_putIx F dX3_add_141 fp_X3_21 (Nat.le_of_ble_eq_true rfl) rfl rfl (by omega) (fun w141 e141 => ?_)
    exact jr_iret F dX3_add_144 (pI_of (by first | rfl | (rw [addRw, bi_t (by unfold isMis; omega)]; rfl) | (rw [addRw, bi_f (by unfold isMis; omega)]; rfl)) (by subst e141; subst e130; subst e108; subst e96; subst e84; subst e68; subst e55; subst e42; subst e30; subst e18; first | rfl | (rw [addRw, bi_t (by unfold isMis; omega)]; rfl) | (rw [addRw, bi_f (by unfold isMis; omega)]; rfl)))
  · skip
    refine jr_iconst F dX3_add_124 ?_
    refine jr_goto (tgt := 129) F dX3_add_125 (by decide) ?_
    refine jr_iadd F dX3_add_129 ?_
    refine jr_putIx F dX3_add_130 fp_X3_25 (Nat.le_of_ble_eq_true rfl) rfl rfl (by omega) (fun w130_1 e130_1 => ?_)
    refine jr_aload_n F dX3_add_133 rfl ?_
    refine jr_dup F dX3_add_134 rfl ?_
    refine jr_getIx F (w 1 3) dX3_add_135 fg_X3_21 (Nat.le_of_ble_eq_true rfl) rfl rfl (by subst e130_1; subst e108; subst e96; subst e84; subst e68; subst e55; subst e42; subst e30; subst e18; rfl) (fun q135 => ?_)
    refine jr_dup_x1 F dX3_add_138 rfl rfl ?_
    refine jr_iconst F dX3_add_139 ?_
    refine jr_iadd F dX3_add_140 ?_
    refine jr_putIx F dX3_add_141 fp_X3_21 (Nat.le_of_ble_eq_true rfl) rfl rfl (by omega) (fun w141_1 e141_1 => ?_)
    exact jr_iret F dX3_add_144 (pI_of (by first | rfl | (rw [addRw, bi_t (by unfold isMis; omega)]; rfl) | (rw [addRw, bi_f (by unfold isMis; omega)]; rfl)) (by subst e141_1; subst e130_1; subst e108; subst e96; subst e84; subst e68; subst e55; subst e42; subst e30; subst e18; first | rfl | (rw [addRw, bi_t (by unfold isMis; omega)]; rfl) | (rw [addRw, bi_f (by unfold isMis; omega)]; rfl)))

