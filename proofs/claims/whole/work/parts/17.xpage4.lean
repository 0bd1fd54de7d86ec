/-! bytes of a long -/
def byt (z p : Int) : Int := (z / (2 ^ (8 * p.toNat) : Nat)) % 256
theorem byt_R (z p : Int) : 0 ≤ byt z p ∧ byt z p ≤ 255 := by unfold byt; omega
theorem i64_n (n : Nat) : Int64.ofInt (n : Int) = Int64.ofNat n := by rw [Int64.ofInt_eq_ofNat]
theorem byt_u0 (z : Int) (k : Nat) (hk : k ≤ 56) (s : UInt64) (hs : s.toNat % 64 = k) : ((Int64.ofInt z).toUInt64 >>> s).toInt64 &&& Int64.ofInt 255 = Int64.ofInt ((((z % 18446744073709551616).toNat / 2 ^ k % 256 : Nat)) : Int) := by
  apply Int64.toBitVec_inj.mp
  apply BitVec.eq_of_toNat_eq
  have e255 : (Int64.ofInt 255).toBitVec = BitVec.ofNat 64 (2 ^ 8 - 1) := by decide
  rw [Int64.toBitVec_and, UInt64.toBitVec_toInt64, BitVec.toNat_and, e255, i64_n]
  have h1 : (BitVec.ofNat 64 (2 ^ 8 - 1)).toNat = 2 ^ 8 - 1 := by decide
  rw [h1, Nat.and_two_pow_sub_one_eq_mod, UInt64.toNat_toBitVec, UInt64.toNat_shiftRight, hs, Nat.shiftRight_eq_div_pow]
  have h2 : (Int64.ofInt z).toUInt64.toNat = (z % 18446744073709551616).toNat := by
    rw [← UInt64.toNat_toBitVec, Int64.toBitVec_toUInt64, Int64.toBitVec_ofInt, BitVec.toNat_ofInt]
    rfl
  rw [h2]
  have h3 : (Int64.ofNat ((z % 18446744073709551616).toNat / 2 ^ k % 256)).toBitVec = BitVec.ofNat 64 ((z % 18446744073709551616).toNat / 2 ^ k % 256) := rfl
  rw [h3, BitVec.toNat_ofNat]
  have : (z % 18446744073709551616).toNat / 2 ^ k % 256 < 256 := Nat.mod_lt _ (by omega)
  generalize (z % 18446744073709551616).toNat / 2 ^ k % 256 = q at this ⊢
  omega
theorem byt_u (z p : Int) (hp : 0 ≤ p ∧ p ≤ 7) : ((Int64.ofInt z).toUInt64 >>> ((Int32.ofInt (8 * p)).toInt64.toUInt64 &&& Int64.toUInt64 63)).toInt64 &&& Int64.ofInt 255 = Int64.ofInt (byt z p) := by
  have hz : 0 ≤ z % 18446744073709551616 := by omega
  have hz2 : z % 18446744073709551616 < 18446744073709551616 := by omega
  unfold byt
  rcases (show p = 0 ∨ p = 1 ∨ p = 2 ∨ p = 3 ∨ p = 4 ∨ p = 5 ∨ p = 6 ∨ p = 7 by omega) with rfl | rfl | rfl | rfl | rfl | rfl | rfl | rfl
  · rw [byt_u0 z 0 (by omega) _ (by decide)]; congr 1; simp; omega
  · rw [byt_u0 z 8 (by omega) _ (by decide)]; congr 1; simp; omega
  · rw [byt_u0 z 16 (by omega) _ (by decide)]; congr 1; simp; omega
  · rw [byt_u0 z 24 (by omega) _ (by decide)]; congr 1; simp; omega
  · rw [byt_u0 z 32 (by omega) _ (by decide)]; congr 1; simp; omega
  · rw [byt_u0 z 40 (by omega) _ (by decide)]; congr 1; simp; omega
  · rw [byt_u0 z 48 (by omega) _ (by decide)]; congr 1; simp; omega
  · rw [byt_u0 z 56 (by omega) _ (by decide)]; congr 1; simp; omega
/-- how many letters a long tells from place p on, t before; refused: -102 -/
def lin (z : Int) : Nat → Int → Int → Int
  | 0, _, t => t
  | f + 1, p, t => if 126 < byt z p ∨ (¬ byt z p = 0 ∧ t < p) then -102 else lin z f (p + 1) (t + if byt z p = 0 then 0 else 1)
def wrB (w : Wd) (z : Int) : Nat → Wd
  | 0 => w
  | n + 1 => up (wrB w z n) 19 (w 18 1 + (n : Nat)) (byt z (n : Nat))
theorem wrB_s {w : Wd} {z n : Int} (h : 0 ≤ n) : wrB w z (n + 1).toNat = up (wrB w z n.toNat) 19 (w 18 1 + n) (byt z n) := by rw [show (n + 1).toNat = n.toNat + 1 by omega, wrB, Int.toNat_of_nonneg h]
theorem wrB_c (w : Wd) (z : Int) {k : Nat} (h : k ≠ 19) : ∀ n, wrB w z n k = w k
  | 0 => rfl
  | n + 1 => by rw [wrB, up_cell h, wrB_c w z h n]

set_option maxRecDepth 100000 in
set_option maxHeartbeats 4000000 in
theorem c_X2_byteOf {B : Bs} {w : Wd} {z p : Int} (hp : 0 ≤ p ∧ p ≤ 7) : Sp (GX B) 0 yX2_byteOf cX2_byteOf 3 (Option.some FieldType.int) [lq (z), iv (p)] w (pI w (byt z p)) := by
  refine Sp.of (by decide) (Nat.le_of_ble_eq_true rfl) (fun X F => ?_)
  show Jw (GX B) X _ 0 [some (lq (z)), none, some (iv (p))] [] w
  refine jr_lload_n F dX2_byteOf_0 rfl ?_
  refine jr_bipush F dX2_byteOf_1 (by decide) ?_
  refine jr_iload_n F dX2_byteOf_3 rfl ?_
  refine jr_imul F dX2_byteOf_4 ?_
  refine jr_lushr F dX2_byteOf_5 ?_
  refine jr_ldc2 (z := 255) F dX2_byteOf_6 (tb_in 478 (by decide +kernel) (by decide +kernel)) ?_
  refine jr_land F dX2_byteOf_9 ?_
  refine jr_topl (z := byt z p) F (byt_u z p hp) ?_
  refine jr_l2i F dX2_byteOf_10 ?_
  exact jr_iret F dX2_byteOf_11 (pI_of (by first | rfl | omega) rfl)

set_option maxRecDepth 100000 in
set_option maxHeartbeats 4000000 in
theorem c_X2_lettersIn {B : Bs} {w : Wd} {z : Int}  : Sp (GX B) 1 yX2_lettersIn cX2_lettersIn 5 (Option.some FieldType.int) [lq (z)] w (pI w (lin z 8 0 0)) := by
  refine Sp.of (by decide) (Nat.le_of_ble_eq_true rfl) (fun X F => ?_)
  show Jw (GX B) X _ 0 [some (lq (z)), none] [] w
  refine jr_iconst F dX2_lettersIn_0 ?_
  refine jr_istore_n F dX2_lettersIn_1 (Nat.le_of_ble_eq_true rfl) rfl ?_
  refine jr_iconst F dX2_lettersIn_2 ?_
  refine jr_istore_n F dX2_lettersIn_3 (Nat.le_of_ble_eq_true rfl) rfl ?_
  have L4 : ∀ (fuel : Nat) (p : Int) (t : Int), (8 - p).toNat < fuel → (0 ≤ p) → (p ≤ 8) → (0 ≤ t ∧ t ≤ p) → (lin z 8 0 0 = lin z (8 - p).toNat p t) → Jw (GX B) X (pI w (lin z 8 0 0)) 4 [some (lq z), none, some (iv t), some (iv p)] [] w := by
    intro fuel
    induction fuel with
    | zero => intro p t hfuel; exact absurd hfuel (Nat.not_lt_zero _)
    | succ fuel ih4 =>
        intro p t hfuel h0 h1 ht hl
        refine jr_iload_n F dX2_lettersIn_4 rfl ?_
        refine jr_bipush F dX2_lettersIn_5 (by decide) ?_
        refine jr_icmp_ge (tgt := 56) F dX2_lettersIn_7 (by decide) (fun c7 => ?_) (fun c7 => ?_) (by omega) (by omega)
        · skip
          refine jr_iload_n F dX2_lettersIn_56 rfl ?_
          exact jr_iret F dX2_lettersIn_57 (pI_of (by rw [hl, show (8 - p).toNat = 0 by omega, lin]) rfl)
        · skip
          refine jr_lload_n F dX2_lettersIn_10 rfl ?_
          refine jr_iload_n F dX2_lettersIn_11 rfl ?_
          refine jr_sI F dX2_lettersIn_12 cs_X2_31 (c_X2_byteOf (by omega)) rfl (Nat.le_of_ble_eq_true rfl) (Nat.le_of_ble_eq_true rfl) rfl (Nat.le_of_ble_eq_true rfl) ?_
          have bR := byt_R z p
          refine jr_istore F dX2_lettersIn_15 (Nat.le_of_ble_eq_true rfl) rfl ?_
          refine jr_iload F dX2_lettersIn_17 rfl ?_
          refine jr_bipush F dX2_lettersIn_19 (by decide) ?_
          refine jr_icmp_gt (tgt := 34) F dX2_lettersIn_21 (by decide) (fun c21 => ?_) (fun c21 => ?_) (by omega) (by omega)
          · skip
            refine jr_bipush F dX2_lettersIn_34 (by decide) ?_
            exact jr_iret F dX2_lettersIn_36 (pI_of (by rw [hl, show (8 - p).toNat = (8 - (p + 1)).toNat + 1 by omega, lin, if_pos (by omega)]) rfl)
          · skip
            refine jr_iload F dX2_lettersIn_24 rfl ?_
            refine jr_if_eq (tgt := 37) F dX2_lettersIn_26 (by decide) (fun c26 => ?_) (fun c26 => ?_) (by omega)
            · skip
              refine jr_iload_n F dX2_lettersIn_37 rfl ?_
              refine jr_iload F dX2_lettersIn_38 rfl ?_
              refine jr_if_eq (tgt := 47) F dX2_lettersIn_40 (by decide) (fun c40 => ?_) (fun c40 => ?_) (by omega)
              · skip
                refine jr_iconst F dX2_lettersIn_47 ?_
                refine jr_iadd F dX2_lettersIn_48 ?_
                refine jr_istore_n F dX2_lettersIn_49 (Nat.le_of_ble_eq_true rfl) rfl ?_
                refine jr_iinc F dX2_lettersIn_50 rfl (Nat.le_of_ble_eq_true rfl) rfl ?_
                refine jr_goto (tgt := 4) F dX2_lettersIn_53 (by decide) ?_
                first | (exfalso; omega) | exact jr_sub (ih4 (p + 1) _ (by omega) (by omega) (by omega) (by omega) (by rw [hl, show (8 - p).toNat = (8 - (p + 1)).toNat + 1 by omega, lin, if_neg (by omega)]; first | rw [if_pos (by omega)] | rw [if_neg (by omega)])) ⟨rfl, rfl, rfl, trivial⟩
              · skip
                refine jr_iconst F dX2_lettersIn_43 ?_
                refine jr_goto (tgt := 48) F dX2_lettersIn_44 (by decide) ?_
                refine jr_iadd F dX2_lettersIn_48 ?_
                refine jr_istore_n F dX2_lettersIn_49 (Nat.le_of_ble_eq_true rfl) rfl ?_
                refine jr_iinc F dX2_lettersIn_50 rfl (Nat.le_of_ble_eq_true rfl) rfl ?_
                refine jr_goto (tgt := 4) F dX2_lettersIn_53 (by decide) ?_
                first | (exfalso; omega) | exact jr_sub (ih4 (p + 1) _ (by omega) (by omega) (by omega) (by omega) (by rw [hl, show (8 - p).toNat = (8 - (p + 1)).toNat + 1 by omega, lin, if_neg (by omega)]; first | rw [if_pos (by omega)] | rw [if_neg (by omega)])) ⟨rfl, rfl, rfl, trivial⟩
            · skip
              refine jr_iload_n F dX2_lettersIn_29 rfl ?_
              refine jr_iload_n F dX2_lettersIn_30 rfl ?_
              refine jr_icmp_ge (tgt := 37) F dX2_lettersIn_31 (by decide) (fun c31 => ?_) (fun c31 => ?_) (by omega) (by omega)
              · skip
                refine jr_iload_n F dX2_lettersIn_37 rfl ?_
                refine jr_iload F dX2_lettersIn_38 rfl ?_
                refine jr_if_eq (tgt := 47) F dX2_lettersIn_40 (by decide) (fun c40 => ?_) (fun c40 => ?_) (by omega)
                · skip
                  refine jr_iconst F dX2_lettersIn_47 ?_
                  refine jr_iadd F dX2_lettersIn_48 ?_
                  refine jr_istore_n F dX2_lettersIn_49 (Nat.le_of_ble_eq_true rfl) rfl ?_
                  refine jr_iinc F dX2_lettersIn_50 rfl (Nat.le_of_ble_eq_true rfl) rfl ?_
                  refine jr_goto (tgt := 4) F dX2_lettersIn_53 (by decide) ?_
                  first | (exfalso; omega) | exact jr_sub (ih4 (p + 1) _ (by omega) (by omega) (by omega) (by omega) (by rw [hl, show (8 - p).toNat = (8 - (p + 1)).toNat + 1 by omega, lin, if_neg (by omega)]; first | rw [if_pos (by omega)] | rw [if_neg (by omega)])) ⟨rfl, rfl, rfl, trivial⟩
                · skip
                  refine jr_iconst F dX2_lettersIn_43 ?_
                  refine jr_goto (tgt := 48) F dX2_lettersIn_44 (by decide) ?_
                  refine jr_iadd F dX2_lettersIn_48 ?_
                  refine jr_istore_n F dX2_lettersIn_49 (Nat.le_of_ble_eq_true rfl) rfl ?_
                  refine jr_iinc F dX2_lettersIn_50 rfl (Nat.le_of_ble_eq_true rfl) rfl ?_
                  refine jr_goto (tgt := 4) F dX2_lettersIn_53 (by decide) ?_
                  first | (exfalso; omega) | exact jr_sub (ih4 (p + 1) _ (by omega) (by omega) (by omega) (by omega) (by rw [hl, show (8 - p).toNat = (8 - (p + 1)).toNat + 1 by omega, lin, if_neg (by omega)]; first | rw [if_pos (by omega)] | rw [if_neg (by omega)])) ⟨rfl, rfl, rfl, trivial⟩
              · skip
                refine jr_bipush F dX2_lettersIn_34 (by decide) ?_
                exact jr_iret F dX2_lettersIn_36 (pI_of (by rw [hl, show (8 - p).toNat = (8 - (p + 1)).toNat + 1 by omega, lin, if_pos (by omega)]) rfl)
  exact jr_sub (L4 _ 0 0 (Nat.lt_succ_self _) (by omega) (by omega) (by omega) rfl) ⟨rfl, rfl, rfl, trivial⟩

set_option maxRecDepth 100000 in
set_option maxHeartbeats 4000000 in
theorem c_X2_write {B : Bs} {w : Wd} {z t : Int} (hp : 0 ≤ w 18 1 ∧ w 18 1 + t ≤ 60) (ht : 0 ≤ t ∧ t ≤ 8) : Sp (GX B) 1 yX2_write cX2_write 5 (Option.some FieldType.int) [.ref (ga (GX B) (18)), lq (z), iv (t)] w (pI (up (wrB w z t.toNat) 18 1 (w 18 1 + t)) (w 18 1 + t)) := by
  refine Sp.of (by decide) (Nat.le_of_ble_eq_true rfl) (fun X F => ?_)
  show Jw (GX B) X _ 0 [some (.ref (ga (GX B) (18))), some (lq (z)), none, some (iv (t))] [] w
  refine jr_iconst F dX2_write_0 ?_
  refine jr_istore F dX2_write_1 (Nat.le_of_ble_eq_true rfl) rfl ?_
  have L3 : ∀ (fuel : Nat) (u : Wd) (i : Int), (t - i).toNat < fuel → (0 ≤ i) → (i ≤ t) → (u = wrB w z i.toNat) → Jw (GX B) X (pI (up (wrB w z t.toNat) 18 1 (w 18 1 + t)) (w 18 1 + t)) 3 [some (.ref (ga (GX B) 18)), some (lq z), none, some (iv t), some (iv i)] [] u := by
    intro fuel
    induction fuel with
    | zero => intro u i hfuel; exact absurd hfuel (Nat.not_lt_zero _)
    | succ fuel ih3 =>
        intro u i hfuel h0 h1 hu
        have u1 : u 18 1 = w 18 1 := by subst hu; rw [wrB_c w z (by decide)]
        refine jr_iload F dX2_write_3 rfl ?_
        refine jr_iload_n F dX2_write_5 rfl ?_
        refine jr_icmp_ge (tgt := 35) F dX2_write_6 (by decide) (fun c6 => ?_) (fun c6 => ?_) (by omega) (by omega)
        · skip
          refine jr_aload_n F dX2_write_35 rfl ?_
          refine jr_dup F dX2_write_36 rfl ?_
          refine jr_getIx F (w 18 1) dX2_write_37 fg_X2_15 (Nat.le_of_ble_eq_true rfl) rfl rfl u1 (fun q37 => ?_)
          refine jr_iload_n F dX2_write_40 rfl ?_
          refine jr_iadd F dX2_write_41 ?_
          refine jr_putIx F dX2_write_42 fp_X2_15 (Nat.le_of_ble_eq_true rfl) rfl rfl (by omega) (fun w42 e42 => ?_)
          refine jr_aload_n F dX2_write_45 rfl ?_
          refine jr_getIx F (w 18 1 + t) dX2_write_46 fg_X2_15 (Nat.le_of_ble_eq_true rfl) rfl rfl (by subst e42; rfl) (fun q46 => ?_)
          exact jr_iret F dX2_write_49 (pI_of rfl (by subst e42; subst hu; rw [show i = t by omega]; rfl))
        · skip
          refine jr_aload_n F dX2_write_9 rfl ?_
          refine jr_getR (t := 19) F dX2_write_10 fg_X2_9 (Nat.le_of_ble_eq_true rfl) rfl rfl ?_
          refine jr_aload_n F dX2_write_13 rfl ?_
          refine jr_getIx F (w 18 1) dX2_write_14 fg_X2_15 (Nat.le_of_ble_eq_true rfl) rfl rfl u1 (fun q14 => ?_)
          refine jr_iload F dX2_write_17 rfl ?_
          refine jr_iadd F dX2_write_19 ?_
          refine jr_lload_n F dX2_write_20 rfl ?_
          refine jr_iload F dX2_write_21 rfl ?_
          refine jr_sI F dX2_write_23 cs_X2_31 (c_X2_byteOf (by omega)) rfl (Nat.le_of_ble_eq_true rfl) (Nat.le_of_ble_eq_true rfl) rfl (Nat.le_of_ble_eq_true rfl) ?_
          have bR := byt_R z i
          refine jr_nVx F dX2_write_26 cn_X2_35 (c_put_in (Nat.le_of_ble_eq_true rfl) rfl (by omega) (by omega) (by omega) (by omega)) rfl (Nat.le_of_ble_eq_true rfl) (Nat.le_of_ble_eq_true rfl) rfl (Nat.le_of_ble_eq_true rfl) (fun w26 e26 => ?_)
          refine jr_iinc F dX2_write_29 rfl (Nat.le_of_ble_eq_true rfl) rfl ?_
          refine jr_goto (tgt := 3) F dX2_write_32 (by decide) ?_
          exact jr_sub (ih3 _ (i + 1) (by omega) (by omega) (by omega) (by subst e26; subst hu; rw [wrB_s h0])) ⟨rfl, rfl, rfl, rfl, trivial⟩
  exact jr_sub (L3 _ _ 0 (Nat.lt_succ_self _) (by omega) (by omega) rfl) ⟨rfl, rfl, rfl, rfl, trivial⟩

