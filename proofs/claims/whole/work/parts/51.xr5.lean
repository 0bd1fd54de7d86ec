/-- the texts that a school has are texts -/
def TXo (w : Wd) (c l : Nat) (n : Int) : Prop := ∀ k : Int, 0 ≤ k → k < n → (3 ≤ rd w l 6 k ∧ rd w l 6 k ≤ 60) ∧ VS (fun i => rd w c 360 (k * 60 + i)) (rd w l 6 k) 0 0 0 ∧ ∀ i : Int, 0 ≤ i → i < rd w l 6 k → 0 ≤ rd w c 360 (k * 60 + i) ∧ rd w c 360 (k * 60 + i) ≤ 126
def TXI (w : Wd) : Prop := TXo w 12 13 (w 11 2) ∧ TXo w 15 16 (w 14 2)
noncomputable def stL (w : Wd) (s : Int) : Int → Int := if s = 0 then rd w 12 360 else rd w 15 360
noncomputable def stN (w : Wd) (s : Int) : Int → Int := if s = 0 then rd w 13 6 else rd w 16 6
theorem say_st {w : Wd} {s : Int} (o : Int → Int) (act d : Int) : sayw w s o act d = sayT (stL w s) (stN w s) o act d (txn w s).toNat := by
  unfold sayw say0 say1 stL stN txn
  split <;> rfl
theorem TX_s {w : Wd} (h : TXI w) {s : Int} (hs : s = 0 ∨ s = 1) {k : Int} (h0 : 0 ≤ k) (h1 : k < txn w s) : (3 ≤ stN w s k ∧ stN w s k ≤ 60) ∧ VS (fun i => stL w s (k * 60 + i)) (stN w s k) 0 0 0 ∧ ∀ i : Int, 0 ≤ i → i < stN w s k → 0 ≤ stL w s (k * 60 + i) ∧ stL w s (k * 60 + i) ≤ 126 := by
  rcases hs with rfl | rfl
  · exact h.1 k h0 h1
  · exact h.2 k h0 h1
theorem rmL {w m : Wd} (h : RM w m) {s : Int} (hs : s = 0 ∨ s = 1) {k i : Int} (k0 : 0 ≤ k) (k1 : k < 6) (i0 : 0 ≤ i) (i1 : i < 60) : m 12 (60 * (6 * s + k) + i) = stL w s (k * 60 + i) := by
  have a := h.2.2.2.1.2.1 (k * 60 + i) (by omega) (by omega)
  unfold stL
  rcases hs with rfl | rfl
  · rw [if_pos rfl, rd_in (by omega) (by omega), ← a.1]
    congr 1; omega
  · rw [if_neg (by omega), rd_in (by omega) (by omega), ← a.2]
    congr 1; omega
theorem rmN {w m : Wd} (h : RM w m) {s : Int} (hs : s = 0 ∨ s = 1) {k : Int} (k0 : 0 ≤ k) (k1 : k < 6) : m 13 (6 * s + k) = stN w s k := by
  have a := h.2.2.2.1.2.2 k k0 k1
  unfold stN
  rcases hs with rfl | rfl
  · rw [if_pos rfl, rd_in (by omega) (by omega), ← a.1]
    congr 1; omega
  · rw [if_neg (by omega), rd_in (by omega) (by omega), ← a.2]
    congr 1
theorem evL_sh (o Lc : Int → Int) (b e k : Int) (q : Q3) : evL o Lc (b + e) (b + k) q = evL o (fun i => Lc (b + i)) e k q := by
  have h1 : b + k - 1 = b + (k - 1) := by omega
  have h2 : b + k + 1 = b + (k + 1) := by omega
  have h3 : b + k + 2 = b + (k + 2) := by omega
  have h4 : (b + (k + 2) < b + e) = (k + 2 < e) := propext (by omega)
  unfold evL evC
  rw [h1, h2, h3]
  simp only [h4]
theorem evS_sh (o Lc : Int → Int) (b e : Int) : ∀ (f : Nat) (k : Int) (q : Q3), evS o Lc (b + e) f (b + k) q = evS o (fun i => Lc (b + i)) e f k q
  | 0, _, _ => rfl
  | f + 1, k, q => by
    rw [evS, evS, evL_sh, show b + k + 1 = b + (k + 1) by omega]
    exact evS_sh o Lc b e f (k + 1) _
theorem evR_sh (o Lc : Int → Int) (b e : Int) : evR o Lc (b + 4) (b + e) = evR o (fun i => Lc (b + i)) 4 e := by
  unfold evR
  rw [show (b + e - (b + 4)).toNat = (e - 4).toNat by omega]
  exact evS_sh o Lc b e _ 4 _

theorem sayT_R2 {L len o : Int → Int} {act d : Int} (hd : 0 ≤ d ∧ d ≤ 1) : ∀ n : Nat, (∀ k : Int, 0 ≤ k → k < n → L (k * 60 + 2) = 48 ∨ L (k * 60 + 2) = 49) → 0 ≤ sayT L len o act d n ∧ sayT L len o act d n ≤ 1
  | 0, _ => hd
  | n + 1, h => by
    have a := h (n : Nat) (by omega) (by omega)
    have b := sayT_R2 (L := L) (len := len) (o := o) (act := act) hd n (fun k k0 k1 => h k k0 (by omega))
    unfold sayT; split <;> omega
theorem say_01 {w : Wd} (hX : TXI w) {s : Int} (hs : s = 0 ∨ s = 1) (ht : 0 ≤ txn w s) (o : Int → Int) (act : Int) {d : Int} (hd : 0 ≤ d ∧ d ≤ 1) : 0 ≤ sayw w s o act d ∧ sayw w s o act d ≤ 1 := by
  rw [say_st]
  refine sayT_R2 hd _ (fun k k0 k1 => ?_)
  have t := TX_s hX hs (k := k) k0 (by omega)
  exact (VS_4 (by omega) t.2.1).2.2.1
theorem blf_R {w : Wd} (hX : TXI w) (h11 : 0 ≤ w 11 2 ∧ w 11 2 ≤ 6) (h14 : 0 ≤ w 14 2 ∧ w 14 2 ≤ 6) {s t : Int} (hs : s = 0 ∨ s = 1) : -49 ≤ blfw w s t ∧ blfw w s t ≤ 78 := by
  have := say_01 hX hs (txn_R h11 h14 s).1 (selv (fa w (tfa w t 1) 0) (tfa w t 0) (tfa w t 2) t) 66 (d := 1) (by omega)
  unfold blfw; omega
theorem cnt_01 {w : Wd} (hX : TXI w) (h11 : 0 ≤ w 11 2 ∧ w 11 2 ≤ 6) (h14 : 0 ≤ w 14 2 ∧ w 14 2 ≤ 6) {s r : Int} (hs : s = 0 ∨ s = 1) : cntw w s r = 0 ∨ cntw w s r = 1 := by
  have := say_01 hX hs (txn_R h11 h14 s).1 (selv (fa w r 0) (fa w r 1) (fa w r 2) r) 67 (d := 0) (by omega)
  unfold cntw; omega

set_option maxRecDepth 100000 in
set_option maxHeartbeats 4000000 in
theorem c_X8_saysOf {B : Bs} {w m : Wd} {s act df : Int} (hM : RM w m) (h11 : 0 ≤ w 11 2 ∧ w 11 2 ≤ 6) (h14 : 0 ≤ w 14 2 ∧ w 14 2 ≤ 6) (hX : TXI w) (hs : s = 0 ∨ s = 1) (ha : inR act) (hdf : inR df) : Sp (GM B) 2 yX8_saysOf cX8_saysOf 6 (Option.some FieldType.int) [.ref (ga (GM B) (0)), iv (s), iv (act), iv (df)] m (pE (fun x u => x = sayw w s (selv (m 15 0) (m 15 1) (m 15 2) (m 15 3)) act df ∧ wq m u)) := by
  refine Sp.of (by decide) (Nat.le_of_ble_eq_true rfl) (fun X F => ?_)
  have tR := txn_R h11 h14 s
  show Jw (GM B) X _ 0 [some (.ref (ga (GM B) (0))), some (iv (s)), some (iv (act)), some (iv (df))] [] m
  refine jr_aload_n F dX8_saysOf_0 rfl ?_
  refine jr_getR (t := 11) F dX8_saysOf_1 fg_X8_41 (Nat.le_of_ble_eq_true rfl) rfl rfl ?_
  refine jr_iload_n F dX8_saysOf_4 rfl ?_
  refine jr_iald F dX8_saysOf_5 (Nat.le_of_ble_eq_true rfl) rfl (by omega) (fun q5 => ?_) (by omega) (by omega)
  refine jr_ti (b := (txn w s)) (rmX hM hs) ?_
  refine jr_iconst F dX8_saysOf_6 ?_
  refine jr_isub F dX8_saysOf_7 ?_
  refine jr_istore F dX8_saysOf_8 (Nat.le_of_ble_eq_true rfl) rfl ?_
  have L10 : ∀ (fuel : Nat) (u : Wd) (k : Int), (k + 1).toNat < fuel → (-1 ≤ k ∧ k < txn w s) → (wq m u) → (sayT (stL w s) (stN w s) (selv (m 15 0) (m 15 1) (m 15 2) (m 15 3)) act df (txn w s).toNat = sayT (stL w s) (stN w s) (selv (m 15 0) (m 15 1) (m 15 2) (m 15 3)) act df (k + 1).toNat) → Jw (GM B) X (pE (fun x u => x = sayw w s (selv (m 15 0) (m 15 1) (m 15 2) (m 15 3)) act df ∧ wq m u)) 10 [some (.ref (ga (GM B) 0)), some (iv s), some (iv act), some (iv df), some (iv k)] [] u := by
    intro fuel
    induction fuel with
    | zero => intro u k hfuel; exact absurd hfuel (Nat.not_lt_zero _)
    | succ fuel ih10 =>
        intro u k hfuel hk hu hz
        have hMu : RM w u := wk_RM (wq_k hu) hM
        have u15 : u 15 = m 15 := hu.1 15 (by decide) (by decide) (by decide) (by decide)
        refine jr_iload F dX8_saysOf_10 rfl ?_
        refine jr_if_lt (tgt := 69) F dX8_saysOf_12 (by decide) (fun c12 => ?_) (fun c12 => ?_) (by omega)
        · skip
          refine jr_iload_n F dX8_saysOf_69 rfl ?_
          exact jr_iret F dX8_saysOf_70 (pE_of ⟨by rw [say_st, hz, show (k + 1).toNat = 0 by omega]; rfl, hu⟩)
        · skip
          have tx := TX_s hX hs (k := k) (by omega) (by omega)
          have l0 := tx.2.2 0 (by omega) (by omega)
          have l2 := tx.2.2 2 (by omega) (by omega)
          rw [Int.add_zero] at l0
          refine jr_bipush F dX8_saysOf_15 (by decide) ?_
          refine jr_iload_n F dX8_saysOf_17 rfl ?_
          refine jr_imul F dX8_saysOf_18 ?_
          refine jr_iload F dX8_saysOf_19 rfl ?_
          refine jr_iadd F dX8_saysOf_21 ?_
          refine jr_istore F dX8_saysOf_22 (Nat.le_of_ble_eq_true rfl) rfl ?_
          refine jr_aload_n F dX8_saysOf_24 rfl ?_
          refine jr_getR (t := 12) F dX8_saysOf_25 fg_X8_44 (Nat.le_of_ble_eq_true rfl) rfl rfl ?_
          refine jr_bipush F dX8_saysOf_28 (by decide) ?_
          refine jr_iload F dX8_saysOf_30 rfl ?_
          refine jr_imul F dX8_saysOf_32 ?_
          refine jr_bald F dX8_saysOf_33 (Nat.le_of_ble_eq_true rfl) rfl (by omega) (fun q33 => ?_) (by omega) (by omega)
          refine jr_ti (b := (stL w s (k * 60))) (by have y := rmL hMu hs (k := k) (i := 0) (by omega) (by omega) (by omega) (by omega); rw [Int.add_zero, Int.add_zero] at y; exact y) ?_
          refine jr_iload_n F dX8_saysOf_34 rfl ?_
          refine jr_icmp_ne (tgt := 63) F dX8_saysOf_35 (by decide) (fun c35 => ?_) (fun c35 => ?_) (by omega) (by omega)
          · skip
            refine jr_iinc F dX8_saysOf_63 rfl (Nat.le_of_ble_eq_true rfl) rfl ?_
            refine jr_goto (tgt := 10) F dX8_saysOf_66 (by decide) ?_
            exact jr_sub (ih10 _ (k + (-1)) (by omega) (by omega) hu (by rw [hz, sayT_n (by omega) (fun q => c35 q.1)]; congr 1; omega)) ⟨rfl, rfl, rfl, rfl, rfl, trivial⟩
          · skip
            refine jr_aload_n F dX8_saysOf_38 rfl ?_
            refine jr_iload F dX8_saysOf_39 rfl ?_
            refine jr_vB F dX8_saysOf_41 cv_X8_176 (c_X8_holds (e := stN w s k) (L := fun i => stL w s (k * 60 + i)) (by omega) (rmN hMu hs (by omega) (by omega)) tx.1 (fun i a b => rmL hMu hs (by omega) (by omega) a (by omega)) tx.2.2 tx.2.1) (Nat.le_of_ble_eq_true rfl) rfl rfl rfl rfl (Nat.le_of_ble_eq_true rfl) (Nat.le_of_ble_eq_true rfl) rfl (Nat.le_of_ble_eq_true rfl) (fun w41 h41 => ?_)
            have u41 : wq m w41 := wq_t hu h41
            have hM41 : RM w w41 := wk_RM (wq_k u41) hM
            refine jr_ifeq_b (tgt := 63) F dX8_saysOf_44 (by decide) (fun c44 => ?_) (fun c44 => ?_)
            · skip
              refine jr_iinc F dX8_saysOf_63 rfl (Nat.le_of_ble_eq_true rfl) rfl ?_
              refine jr_goto (tgt := 10) F dX8_saysOf_66 (by decide) ?_
              exact jr_sub (ih10 _ (k + (-1)) (by omega) (by omega) u41 (by rw [hz, sayT_n (by omega) (fun q => c44 (by rw [u15, ← evR_sh]; exact q.2))]; congr 1; omega)) ⟨rfl, rfl, rfl, rfl, rfl, trivial⟩
            · skip
              refine jr_aload_n F dX8_saysOf_47 rfl ?_
              refine jr_getR (t := 12) F dX8_saysOf_48 fg_X8_44 (Nat.le_of_ble_eq_true rfl) rfl rfl ?_
              refine jr_bipush F dX8_saysOf_51 (by decide) ?_
              refine jr_iload F dX8_saysOf_53 rfl ?_
              refine jr_imul F dX8_saysOf_55 ?_
              refine jr_iconst F dX8_saysOf_56 ?_
              refine jr_iadd F dX8_saysOf_57 ?_
              refine jr_bald F dX8_saysOf_58 (Nat.le_of_ble_eq_true rfl) rfl (by omega) (fun q58 => ?_) (by omega) (by omega)
              refine jr_ti (b := (stL w s (k * 60 + 2))) (rmL hM41 hs (by omega) (by omega) (by omega) (by omega)) ?_
              refine jr_bipush F dX8_saysOf_59 (by decide) ?_
              refine jr_isub F dX8_saysOf_61 ?_
              exact jr_iret F dX8_saysOf_62 (pE_of ⟨by rw [say_st, hz, sayT_y (by omega) ⟨c35, by rw [evR_sh, ← u15]; exact c44⟩], u41⟩)
  exact jr_sub (L10 _ _ (txn w s - 1) (Nat.lt_succ_self _) (by omega) (wq_r m) (by rw [show txn w s - 1 + 1 = txn w s by omega])) ⟨rfl, rfl, rfl, rfl, rfl, trivial⟩

set_option maxRecDepth 100000 in
set_option maxHeartbeats 4000000 in
theorem c_X8_countsOf {B : Bs} {w m : Wd} {s r : Int} (hM : RM w m) (h11 : 0 ≤ w 11 2 ∧ w 11 2 ≤ 6) (h14 : 0 ≤ w 14 2 ∧ w 14 2 ≤ 6) (hX : TXI w) (hs : s = 0 ∨ s = 1) (hr : 0 ≤ r ∧ r < 10) : Sp (GM B) 3 yX8_countsOf cX8_countsOf 3 (Option.some FieldType.int) [.ref (ga (GM B) (0)), iv (s), iv (r)] m (pE (fun x u => x = cntw w s r ∧ wk m u)) := by
  refine Sp.of (by decide) (Nat.le_of_ble_eq_true rfl) (fun X F => ?_)
  show Jw (GM B) X _ 0 [some (.ref (ga (GM B) (0))), some (iv (s)), some (iv (r))] [] m
  refine jr_aload_n F dX8_countsOf_0 rfl ?_
  refine jr_getR (t := 15) F dX8_countsOf_1 fg_X8_53 (Nat.le_of_ble_eq_true rfl) rfl rfl ?_
  refine jr_iconst F dX8_countsOf_4 ?_
  refine jr_aload_n F dX8_countsOf_5 rfl ?_
  refine jr_getR (t := 1) F dX8_countsOf_6 fg_X8_7 (Nat.le_of_ble_eq_true rfl) rfl rfl ?_
  refine jr_iload_n F dX8_countsOf_9 rfl ?_
  refine jr_iald F dX8_countsOf_10 (Nat.le_of_ble_eq_true rfl) rfl (by omega) (fun q10 => ?_) (by omega) (by omega)
  have v10 : m 1 (r) = (fa w r 0) := (rmf0 hM (r := r) (by omega) (by omega))
  rw [v10] at q10
  refine jr_ti v10 ?_
  refine jr_iastx F dX8_countsOf_11 (Nat.le_of_ble_eq_true rfl) rfl (by omega) (fun w11 e11 => ?_) (by omega) (by omega) (by omega)
  refine jr_aload_n F dX8_countsOf_12 rfl ?_
  refine jr_getR (t := 15) F dX8_countsOf_13 fg_X8_53 (Nat.le_of_ble_eq_true rfl) rfl rfl ?_
  refine jr_iconst F dX8_countsOf_16 ?_
  refine jr_aload_n F dX8_countsOf_17 rfl ?_
  refine jr_getR (t := 2) F dX8_countsOf_18 fg_X8_13 (Nat.le_of_ble_eq_true rfl) rfl rfl ?_
  refine jr_iload_n F dX8_countsOf_21 rfl ?_
  refine jr_iald F dX8_countsOf_22 (Nat.le_of_ble_eq_true rfl) rfl (by omega) (fun q22 => ?_) (by omega) (by omega)
  have v22 : w11 2 (r) = (fa w r 1) := (by subst e11; exact (show m 2 (r) = (fa w r 1) from (rmf1 hM (r := r) (by omega) (by omega))))
  rw [v22] at q22
  refine jr_ti v22 ?_
  refine jr_iastx F dX8_countsOf_23 (Nat.le_of_ble_eq_true rfl) rfl (by omega) (fun w23 e23 => ?_) (by omega) (by omega) (by omega)
  refine jr_aload_n F dX8_countsOf_24 rfl ?_
  refine jr_getR (t := 15) F dX8_countsOf_25 fg_X8_53 (Nat.le_of_ble_eq_true rfl) rfl rfl ?_
  refine jr_iconst F dX8_countsOf_28 ?_
  refine jr_aload_n F dX8_countsOf_29 rfl ?_
  refine jr_getR (t := 3) F dX8_countsOf_30 fg_X8_16 (Nat.le_of_ble_eq_true rfl) rfl rfl ?_
  refine jr_iload_n F dX8_countsOf_33 rfl ?_
  refine jr_iald F dX8_countsOf_34 (Nat.le_of_ble_eq_true rfl) rfl (by omega) (fun q34 => ?_) (by omega) (by omega)
  have v34 : w23 3 (r) = (fa w r 2) := (by subst e23; subst e11; exact (show m 3 (r) = (fa w r 2) from (rmf2 hM (r := r) (by omega) (by omega))))
  rw [v34] at q34
  refine jr_ti v34 ?_
  refine jr_iastx F dX8_countsOf_35 (Nat.le_of_ble_eq_true rfl) rfl (by omega) (fun w35 e35 => ?_) (by omega) (by omega) (by omega)
  refine jr_aload_n F dX8_countsOf_36 rfl ?_
  refine jr_getR (t := 15) F dX8_countsOf_37 fg_X8_53 (Nat.le_of_ble_eq_true rfl) rfl rfl ?_
  refine jr_iconst F dX8_countsOf_40 ?_
  refine jr_iload_n F dX8_countsOf_41 rfl ?_
  refine jr_iastx F dX8_countsOf_42 (Nat.le_of_ble_eq_true rfl) rfl (by omega) (fun w42 e42 => ?_) (by omega) (by omega) (by omega)
  have sW : wk m w42 := by subst e42; subst e35; subst e23; subst e11; exact ⟨fun k a b c d e => by rw [up_cell b, up_cell b, up_cell b, up_cell b], fun i y => by rw [up_cell (by decide), up_cell (by decide), up_cell (by decide), up_cell (by decide)]⟩
  have sO : selv (w42 15 0) (w42 15 1) (w42 15 2) (w42 15 3) = selv (fa w r 0) (fa w r 1) (fa w r 2) (r) := by subst e42; subst e35; subst e23; subst e11; rfl
  refine jr_aload_n F dX8_countsOf_43 rfl ?_
  refine jr_iload_n F dX8_countsOf_44 rfl ?_
  refine jr_bipush F dX8_countsOf_45 (by decide) ?_
  refine jr_iconst F dX8_countsOf_47 ?_
  refine jr_vE F dX8_countsOf_48 cv_X8_179 (c_X8_saysOf (wk_RM sW hM) h11 h14 hX hs (by omega) (by omega)) (Nat.le_of_ble_eq_true rfl) rfl rfl rfl rfl (Nat.le_of_ble_eq_true rfl) (Nat.le_of_ble_eq_true rfl) rfl (Nat.le_of_ble_eq_true rfl) (fun r48 w48 h48 => ?_)
  exact jr_iret F dX8_countsOf_51 (pE_of ⟨by rw [h48.1, sO]; rfl, wk_t sW (wq_k h48.2)⟩)

set_option maxRecDepth 100000 in
set_option maxHeartbeats 4000000 in
theorem c_X8_believesOf {B : Bs} {w m : Wd} {s r : Int} (hM : RM w m) (h11 : 0 ≤ w 11 2 ∧ w 11 2 ≤ 6) (h14 : 0 ≤ w 14 2 ∧ w 14 2 ≤ 6) (hX : TXI w) (hs : s = 0 ∨ s = 1) (hr : 0 ≤ r ∧ r < 8) (hq : 0 ≤ tfa w r 1 ∧ tfa w r 1 < 10) : Sp (GM B) 3 yX8_believesOf cX8_believesOf 3 (Option.some FieldType.int) [.ref (ga (GM B) (0)), iv (s), iv (r)] m (pE (fun x u => x = blfw w s r ∧ wk m u)) := by
  refine Sp.of (by decide) (Nat.le_of_ble_eq_true rfl) (fun X F => ?_)
  show Jw (GM B) X _ 0 [some (.ref (ga (GM B) (0))), some (iv (s)), some (iv (r))] [] m
  refine jr_aload_n F dX8_believesOf_0 rfl ?_
  refine jr_getR (t := 15) F dX8_believesOf_1 fg_X8_53 (Nat.le_of_ble_eq_true rfl) rfl rfl ?_
  refine jr_iconst F dX8_believesOf_4 ?_
  refine jr_aload_n F dX8_believesOf_5 rfl ?_
  refine jr_getR (t := 1) F dX8_believesOf_6 fg_X8_7 (Nat.le_of_ble_eq_true rfl) rfl rfl ?_
  refine jr_aload_n F dX8_believesOf_9 rfl ?_
  refine jr_getR (t := 8) F dX8_believesOf_10 fg_X8_31 (Nat.le_of_ble_eq_true rfl) rfl rfl ?_
  refine jr_bipush F dX8_believesOf_13 (by decide) ?_
  refine jr_iload_n F dX8_believesOf_15 rfl ?_
  refine jr_imul F dX8_believesOf_16 ?_
  refine jr_iconst F dX8_believesOf_17 ?_
  refine jr_iadd F dX8_believesOf_18 ?_
  refine jr_iald F dX8_believesOf_19 (Nat.le_of_ble_eq_true rfl) rfl (by omega) (fun q19 => ?_) (by omega) (by omega)
  have v19 : m 8 (((7 * r) + 1)) = (tfa w r 1) := (rmT hM (t := r) (f := 1) (by omega) (by omega) (by omega) (by omega))
  rw [v19] at q19
  refine jr_ti v19 ?_
  refine jr_iald F dX8_believesOf_20 (Nat.le_of_ble_eq_true rfl) rfl (by omega) (fun q20 => ?_) (by omega) (by omega)
  have v20 : m 1 ((tfa w r 1)) = (fa w (tfa w r 1) 0) := (rmf0 hM (r := (tfa w r 1)) (by omega) (by omega))
  rw [v20] at q20
  refine jr_ti v20 ?_
  refine jr_iastx F dX8_believesOf_21 (Nat.le_of_ble_eq_true rfl) rfl (by omega) (fun w21 e21 => ?_) (by omega) (by omega) (by omega)
  refine jr_aload_n F dX8_believesOf_22 rfl ?_
  refine jr_getR (t := 15) F dX8_believesOf_23 fg_X8_53 (Nat.le_of_ble_eq_true rfl) rfl rfl ?_
  refine jr_iconst F dX8_believesOf_26 ?_
  refine jr_aload_n F dX8_believesOf_27 rfl ?_
  refine jr_getR (t := 8) F dX8_believesOf_28 fg_X8_31 (Nat.le_of_ble_eq_true rfl) rfl rfl ?_
  refine jr_bipush F dX8_believesOf_31 (by decide) ?_
  refine jr_iload_n F dX8_believesOf_33 rfl ?_
  refine jr_imul F dX8_believesOf_34 ?_
  refine jr_iald F dX8_believesOf_35 (Nat.le_of_ble_eq_true rfl) rfl (by omega) (fun q35 => ?_) (by omega) (by omega)
  have v35 : w21 8 ((7 * r)) = (tfa w r 0) := (by subst e21; exact (show m 8 ((7 * r)) = (tfa w r 0) from (rmT0 hM (t := r) (by omega) (by omega))))
  rw [v35] at q35
  refine jr_ti v35 ?_
  refine jr_iastx F dX8_believesOf_36 (Nat.le_of_ble_eq_true rfl) rfl (by omega) (fun w36 e36 => ?_) (by omega) (by omega) (by omega)
  refine jr_aload_n F dX8_believesOf_37 rfl ?_
  refine jr_getR (t := 15) F dX8_believesOf_38 fg_X8_53 (Nat.le_of_ble_eq_true rfl) rfl rfl ?_
  refine jr_iconst F dX8_believesOf_41 ?_
  refine jr_aload_n F dX8_believesOf_42 rfl ?_
  refine jr_getR (t := 8) F dX8_believesOf_43 fg_X8_31 (Nat.le_of_ble_eq_true rfl) rfl rfl ?_
  refine jr_bipush F dX8_believesOf_46 (by decide) ?_
  refine jr_iload_n F dX8_believesOf_48 rfl ?_
  refine jr_imul F dX8_believesOf_49 ?_
  refine jr_iconst F dX8_believesOf_50 ?_
  refine jr_iadd F dX8_believesOf_51 ?_
  refine jr_iald F dX8_believesOf_52 (Nat.le_of_ble_eq_true rfl) rfl (by omega) (fun q52 => ?_) (by omega) (by omega)
  have v52 : w36 8 (((7 * r) + 2)) = (tfa w r 2) := (by subst e36; subst e21; exact (show m 8 (((7 * r) + 2)) = (tfa w r 2) from (rmT hM (t := r) (f := 2) (by omega) (by omega) (by omega) (by omega))))
  rw [v52] at q52
  refine jr_ti v52 ?_
  refine jr_iastx F dX8_believesOf_53 (Nat.le_of_ble_eq_true rfl) rfl (by omega) (fun w53 e53 => ?_) (by omega) (by omega) (by omega)
  refine jr_aload_n F dX8_believesOf_54 rfl ?_
  refine jr_getR (t := 15) F dX8_believesOf_55 fg_X8_53 (Nat.le_of_ble_eq_true rfl) rfl rfl ?_
  refine jr_iconst F dX8_believesOf_58 ?_
  refine jr_iload_n F dX8_believesOf_59 rfl ?_
  refine jr_iastx F dX8_believesOf_60 (Nat.le_of_ble_eq_true rfl) rfl (by omega) (fun w60 e60 => ?_) (by omega) (by omega) (by omega)
  have sW : wk m w60 := by subst e60; subst e53; subst e36; subst e21; exact ⟨fun k a b c d e => by rw [up_cell b, up_cell b, up_cell b, up_cell b], fun i y => by rw [up_cell (by decide), up_cell (by decide), up_cell (by decide), up_cell (by decide)]⟩
  have sO : selv (w60 15 0) (w60 15 1) (w60 15 2) (w60 15 3) = selv (fa w (tfa w r 1) 0) (tfa w r 0) (tfa w r 2) (r) := by subst e60; subst e53; subst e36; subst e21; rfl
  refine jr_aload_n F dX8_believesOf_61 rfl ?_
  refine jr_iload_n F dX8_believesOf_62 rfl ?_
  refine jr_bipush F dX8_believesOf_63 (by decide) ?_
  refine jr_iconst F dX8_believesOf_65 ?_
  refine jr_vE F dX8_believesOf_66 cv_X8_179 (c_X8_saysOf (wk_RM sW hM) h11 h14 hX hs (by omega) (by omega)) (Nat.le_of_ble_eq_true rfl) rfl rfl rfl rfl (Nat.le_of_ble_eq_true rfl) (Nat.le_of_ble_eq_true rfl) rfl (Nat.le_of_ble_eq_true rfl) (fun r66 w66 h66 => ?_)
  exact jr_iret F dX8_believesOf_69 (pE_of ⟨by rw [h66.1, sO]; rfl, wk_t sW (wq_k h66.2)⟩)

set_option maxRecDepth 100000 in
set_option maxHeartbeats 4000000 in
theorem c_X8_counts {B : Bs} {w m : Wd} {s r : Int} (hM : RM w m) (h3 : 0 ≤ w 1 3 ∧ w 1 3 ≤ 10) (h5 : 0 ≤ w 5 3 ∧ w 5 3 ≤ 8) (h11 : 0 ≤ w 11 2 ∧ w 11 2 ≤ 6) (h14 : 0 ≤ w 14 2 ∧ w 14 2 ≤ 6) (hX : TXI w) (hs : inR s) (hr : inR r) : Sp (GM B) 4 yX8_counts cX8_counts 3 (Option.some FieldType.int) [.ref (ga (GM B) (0)), iv (s), iv (r)] m (pE (fun x u => x = cousw w s r ∧ wk m u)) := by
  refine Sp.of (by decide) (Nat.le_of_ble_eq_true rfl) (fun X F => ?_)
  show Jw (GM B) X _ 0 [some (.ref (ga (GM B) (0))), some (iv (s)), some (iv (r))] [] m
  refine jr_iload_n F dX8_counts_0 rfl ?_
  refine jr_sI F dX8_counts_1 cs_X8_160 (c_X8_isSchool (by omega)) rfl (Nat.le_of_ble_eq_true rfl) (Nat.le_of_ble_eq_true rfl) rfl (Nat.le_of_ble_eq_true rfl) ?_
  refine jr_ifeq_b (tgt := 24) F dX8_counts_4 (by decide) (fun c4 => ?_) (fun c4 => ?_)
  · skip
    refine jr_bipush F dX8_counts_24 (by decide) ?_
    first | exact jr_iret F dX8_counts_26 (pE_of ⟨by unfold cousw; rw [if_pos ⟨c4, c12⟩]; exact h18.1, h18.2⟩) | exact jr_iret F dX8_counts_26 (pE_of ⟨by unfold cousw; rw [if_neg (by omega)], wk_r m⟩)
  · skip
    refine jr_aload_n F dX8_counts_7 rfl ?_
    refine jr_iload_n F dX8_counts_8 rfl ?_
    refine jr_vI F dX8_counts_9 cv_X8_103 (c_X8_isReign hM h3 (by omega)) (Nat.le_of_ble_eq_true rfl) rfl rfl rfl rfl (Nat.le_of_ble_eq_true rfl) (Nat.le_of_ble_eq_true rfl) rfl (Nat.le_of_ble_eq_true rfl) ?_
    refine jr_ifeq_b (tgt := 24) F dX8_counts_12 (by decide) (fun c12 => ?_) (fun c12 => ?_)
    · skip
      refine jr_bipush F dX8_counts_24 (by decide) ?_
      first | exact jr_iret F dX8_counts_26 (pE_of ⟨by unfold cousw; rw [if_pos ⟨c4, c12⟩]; exact h18.1, h18.2⟩) | exact jr_iret F dX8_counts_26 (pE_of ⟨by unfold cousw; rw [if_neg (by omega)], wk_r m⟩)
    · skip
      refine jr_aload_n F dX8_counts_15 rfl ?_
      refine jr_iload_n F dX8_counts_16 rfl ?_
      refine jr_iload_n F dX8_counts_17 rfl ?_
      refine jr_vE F dX8_counts_18 cv_X8_182 (c_X8_countsOf hM h11 h14 hX c4 (by omega)) (Nat.le_of_ble_eq_true rfl) rfl rfl rfl rfl (Nat.le_of_ble_eq_true rfl) (Nat.le_of_ble_eq_true rfl) rfl (Nat.le_of_ble_eq_true rfl) (fun r18 w18 h18 => ?_)
      refine jr_goto (tgt := 26) F dX8_counts_21 (by decide) ?_
      first | exact jr_iret F dX8_counts_26 (pE_of ⟨by unfold cousw; rw [if_pos ⟨c4, c12⟩]; exact h18.1, h18.2⟩) | exact jr_iret F dX8_counts_26 (pE_of ⟨by unfold cousw; rw [if_neg (by omega)], wk_r m⟩)

set_option maxRecDepth 100000 in
set_option maxHeartbeats 4000000 in
theorem c_X8_believes {B : Bs} {w m : Wd} {s r : Int} (hM : RM w m) (h3 : 0 ≤ w 1 3 ∧ w 1 3 ≤ 10) (h5 : 0 ≤ w 5 3 ∧ w 5 3 ≤ 8) (h11 : 0 ≤ w 11 2 ∧ w 11 2 ≤ 6) (h14 : 0 ≤ w 14 2 ∧ w 14 2 ≤ 6) (hX : TXI w) (hq : ∀ t : Int, 0 ≤ t → t < w 5 3 → 0 ≤ tfa w t 1 ∧ tfa w t 1 < 10) (hs : inR s) (hr : inR r) : Sp (GM B) 4 yX8_believes cX8_believes 3 (Option.some FieldType.int) [.ref (ga (GM B) (0)), iv (s), iv (r)] m (pE (fun x u => x = belsw w s r ∧ wk m u)) := by
  refine Sp.of (by decide) (Nat.le_of_ble_eq_true rfl) (fun X F => ?_)
  show Jw (GM B) X _ 0 [some (.ref (ga (GM B) (0))), some (iv (s)), some (iv (r))] [] m
  refine jr_iload_n F dX8_believes_0 rfl ?_
  refine jr_sI F dX8_believes_1 cs_X8_160 (c_X8_isSchool (by omega)) rfl (Nat.le_of_ble_eq_true rfl) (Nat.le_of_ble_eq_true rfl) rfl (Nat.le_of_ble_eq_true rfl) ?_
  refine jr_ifeq_b (tgt := 24) F dX8_believes_4 (by decide) (fun c4 => ?_) (fun c4 => ?_)
  · skip
    refine jr_bipush F dX8_believes_24 (by decide) ?_
    first | exact jr_iret F dX8_believes_26 (pE_of ⟨by unfold belsw; rw [if_pos ⟨c4, c12⟩]; exact h18.1, h18.2⟩) | exact jr_iret F dX8_believes_26 (pE_of ⟨by unfold belsw; rw [if_neg (by omega)], wk_r m⟩)
  · skip
    refine jr_aload_n F dX8_believes_7 rfl ?_
    refine jr_iload_n F dX8_believes_8 rfl ?_
    refine jr_vI F dX8_believes_9 cv_X8_135 (c_X8_isTie hM h5 (by omega)) (Nat.le_of_ble_eq_true rfl) rfl rfl rfl rfl (Nat.le_of_ble_eq_true rfl) (Nat.le_of_ble_eq_true rfl) rfl (Nat.le_of_ble_eq_true rfl) ?_
    refine jr_ifeq_b (tgt := 24) F dX8_believes_12 (by decide) (fun c12 => ?_) (fun c12 => ?_)
    · skip
      refine jr_bipush F dX8_believes_24 (by decide) ?_
      first | exact jr_iret F dX8_believes_26 (pE_of ⟨by unfold belsw; rw [if_pos ⟨c4, c12⟩]; exact h18.1, h18.2⟩) | exact jr_iret F dX8_believes_26 (pE_of ⟨by unfold belsw; rw [if_neg (by omega)], wk_r m⟩)
    · skip
      refine jr_aload_n F dX8_believes_15 rfl ?_
      refine jr_iload_n F dX8_believes_16 rfl ?_
      refine jr_iload_n F dX8_believes_17 rfl ?_
      refine jr_vE F dX8_believes_18 cv_X8_185 (c_X8_believesOf hM h11 h14 hX c4 (by omega) (hq r (by omega) (by omega))) (Nat.le_of_ble_eq_true rfl) rfl rfl rfl rfl (Nat.le_of_ble_eq_true rfl) (Nat.le_of_ble_eq_true rfl) rfl (Nat.le_of_ble_eq_true rfl) (fun r18 w18 h18 => ?_)
      refine jr_goto (tgt := 26) F dX8_believes_21 (by decide) ?_
      first | exact jr_iret F dX8_believes_26 (pE_of ⟨by unfold belsw; rw [if_pos ⟨c4, c12⟩]; exact h18.1, h18.2⟩) | exact jr_iret F dX8_believes_26 (pE_of ⟨by unfold belsw; rw [if_neg (by omega)], wk_r m⟩)

set_option maxRecDepth 100000 in
set_option maxHeartbeats 4000000 in
theorem c_X8_isKnown {B : Bs} {w m : Wd} {r e : Int} (hM : RM w m) (hr : 0 ≤ r ∧ r < 10) (he : inR e) : Sp (GM B) 0 yX8_isKnown cX8_isKnown 3 (Option.some FieldType.boolean) [.ref (ga (GM B) (0)), iv (r), iv (e)] m (pI m (bi (fa w r 4 ≤ e))) := by
  refine Sp.of (by decide) (Nat.le_of_ble_eq_true rfl) (fun X F => ?_)
  show Jw (GM B) X _ 0 [some (.ref (ga (GM B) (0))), some (iv (r)), some (iv (e))] [] m
  refine jr_aload_n F dX8_isKnown_0 rfl ?_
  refine jr_getR (t := 5) F dX8_isKnown_1 fg_X8_22 (Nat.le_of_ble_eq_true rfl) rfl rfl ?_
  refine jr_iload_n F dX8_isKnown_4 rfl ?_
  refine jr_iald F dX8_isKnown_5 (Nat.le_of_ble_eq_true rfl) rfl (by omega) (fun q5 => ?_) (by omega) (by omega)
  have v5 : m 5 (r) = (fa w r 4) := (rmf4 hM (r := r) (by omega) (by omega))
  rw [v5] at q5
  refine jr_ti v5 ?_
  refine jr_iload_n F dX8_isKnown_6 rfl ?_
  refine jr_icmp_gt (tgt := 14) F dX8_isKnown_7 (by decide) (fun c7 => ?_) (fun c7 => ?_) (by omega) (by omega)
  · skip
    refine jr_iconst F dX8_isKnown_14 ?_
    exact jr_zret F dX8_isKnown_15 (pI_of (bi_f (by omega)).symm rfl) (by omega)
  · skip
    refine jr_iconst F dX8_isKnown_10 ?_
    refine jr_goto (tgt := 15) F dX8_isKnown_11 (by decide) ?_
    exact jr_zret F dX8_isKnown_15 (pI_of (bi_t (by omega)).symm rfl) (by omega)

set_option maxRecDepth 100000 in
set_option maxHeartbeats 4000000 in
theorem c_X8_tiesOf {B : Bs} {w m : Wd} {s e : Int} (hM : RM w m) (hT : TI w) (hN : TN w) (h3 : 0 ≤ w 1 3 ∧ w 1 3 ≤ 10) (h11 : 0 ≤ w 11 2 ∧ w 11 2 ≤ 6) (h14 : 0 ≤ w 14 2 ∧ w 14 2 ≤ 6) (hX : TXI w) (hs : s = 0 ∨ s = 1) (he : inR e) : Sp (GM B) 4 yX8_tiesOf cX8_tiesOf 6 (Option.some FieldType.int) [.ref (ga (GM B) (0)), iv (s), iv (e)] m (pE (fun x u => x = blB w s e ∧ wk m u)) := by
  refine Sp.of (by decide) (Nat.le_of_ble_eq_true rfl) (fun X F => ?_)
  have n8 := hT.1
  show Jw (GM B) X _ 0 [some (.ref (ga (GM B) (0))), some (iv (s)), some (iv (e))] [] m
  refine jr_iconst F dX8_tiesOf_0 ?_
  refine jr_istore_n F dX8_tiesOf_1 (Nat.le_of_ble_eq_true rfl) rfl ?_
  refine jr_iconst F dX8_tiesOf_2 ?_
  refine jr_istore F dX8_tiesOf_3 (Nat.le_of_ble_eq_true rfl) rfl ?_
  have L5 : ∀ (fuel : Nat) (u : Wd) (i : Int) (z : Int), (w 5 3 - i).toNat < fuel → (0 ≤ i) → (i ≤ w 5 3) → (wk m u) → (z = bsI (blS w s e) i) → Jw (GM B) X (pE (fun x u => x = blB w s e ∧ wk m u)) 5 [some (.ref (ga (GM B) 0)), some (iv s), some (iv e), some (iv z), some (iv i)] [] u := by
    intro fuel
    induction fuel with
    | zero => intro u i z hfuel; exact absurd hfuel (Nat.not_lt_zero _)
    | succ fuel ih5 =>
        intro u i z hfuel i0 i1 hu hz
        have hMu : RM w u := wk_RM hu hM
        have zR := bsI_R (blS w s e) (i := i) 10 (by omega)
        refine jr_iload F dX8_tiesOf_5 rfl ?_
        refine jr_aload_n F dX8_tiesOf_7 rfl ?_
        refine jr_getIx F (w 5 3) dX8_tiesOf_8 fg_X8_122 (Nat.le_of_ble_eq_true rfl) rfl rfl ((show u 0 8 = (w 5 3) from rn8 hMu)) (fun q8 => ?_)
        refine jr_icmp_ge (tgt := 127) F dX8_tiesOf_11 (by decide) (fun c11 => ?_) (fun c11 => ?_) (by omega) (by omega)
        · skip
          refine jr_iload_n F dX8_tiesOf_127 rfl ?_
          exact jr_iret F dX8_tiesOf_128 (pE_of ⟨by rw [hz, show i = w 5 3 by omega]; rfl, hu⟩)
        · skip
          have tt := hT.2 i i0 (by omega)
          have nn := hN i i0 (by omega)
          have n3 : tfa w i 3 = -1 ∨ (0 ≤ tfa w i 3 ∧ tfa w i 3 < w 1 3) := by omega
          refine jr_aload_n F dX8_tiesOf_14 rfl ?_
          refine jr_getR (t := 8) F dX8_tiesOf_15 fg_X8_31 (Nat.le_of_ble_eq_true rfl) rfl rfl ?_
          refine jr_bipush F dX8_tiesOf_18 (by decide) ?_
          refine jr_iload F dX8_tiesOf_20 rfl ?_
          refine jr_imul F dX8_tiesOf_22 ?_
          refine jr_bipush F dX8_tiesOf_23 (by decide) ?_
          refine jr_iadd F dX8_tiesOf_25 ?_
          refine jr_iald F dX8_tiesOf_26 (Nat.le_of_ble_eq_true rfl) rfl (by omega) (fun q26 => ?_) (by omega) (by omega)
          have v26 : u 8 (((7 * i) + 6)) = (tfa w i 6) := (rmT hMu (t := i) (f := 6) (by omega) (by omega) (by omega) (by omega))
          rw [v26] at q26
          refine jr_ti v26 ?_
          refine jr_iload_n F dX8_tiesOf_27 rfl ?_
          refine jr_icmp_gt (tgt := 91) F dX8_tiesOf_28 (by decide) (fun c28 => ?_) (fun c28 => ?_) (by omega) (by omega)
          · skip
            refine jr_iconst F dX8_tiesOf_91 ?_
            refine jr_istore F dX8_tiesOf_92 (Nat.le_of_ble_eq_true rfl) rfl ?_
            refine jr_iload_n F dX8_tiesOf_94 rfl ?_
            refine jr_iload F dX8_tiesOf_95 rfl ?_
            refine jr_if_eq (tgt := 118) F dX8_tiesOf_97 (by decide) (fun c97 => ?_) (fun c97 => ?_) (by omega)
            · skip
              refine jr_iconst F dX8_tiesOf_118 ?_
              have kn : knw w (tfa w i 1) e ↔ fa w (tfa w i 1) 4 ≤ e := ⟨fun q => q.2.2, fun q => ⟨by omega, by omega, q⟩⟩
              have kn3 : 0 ≤ tfa w i 3 → (knw w (tfa w i 3) e ↔ fa w (tfa w i 3) 4 ≤ e) := fun y => ⟨fun q => q.2.2, fun q => ⟨y, by omega, q⟩⟩
              try have KN : ¬ blS w s e i := by unfold blS; rw [kn]; first | (intro q; omega) | (intro q; rw [kn3 (by omega)] at q; omega) | (intro q; exact c108 (by rw [h104.1]; exact q.2))
              try have KY : blS w s e i := by unfold blS; rw [kn]; first | exact ⟨⟨by omega, by omega, Or.inl (by omega)⟩, by omega⟩ | exact ⟨⟨by omega, by omega, Or.inr ((kn3 (by omega)).mpr (by omega))⟩, by omega⟩
              refine jr_ior F dX8_tiesOf_119 ?_
              refine jr_top (z := bsI (blS w s e) (i + 1)) F (by rw [hz]; first | exact b_orT i0 (by omega) KY | exact b_orF i0 (by omega) KN) ?_
              refine jr_istore_n F dX8_tiesOf_120 (Nat.le_of_ble_eq_true rfl) rfl ?_
              refine jr_iinc F dX8_tiesOf_121 rfl (Nat.le_of_ble_eq_true rfl) rfl ?_
              refine jr_goto (tgt := 5) F dX8_tiesOf_124 (by decide) ?_
              first | exact jr_sub (ih5 _ (i + 1) _ (by omega) (by omega) (by omega) u104 rfl) ⟨rfl, rfl, rfl, rfl, rfl, trivial⟩ | exact jr_sub (ih5 _ (i + 1) _ (by omega) (by omega) (by omega) hu rfl) ⟨rfl, rfl, rfl, rfl, rfl, trivial⟩
            · exact absurd c97 (by omega)
          · skip
            refine jr_aload_n F dX8_tiesOf_31 rfl ?_
            refine jr_aload_n F dX8_tiesOf_32 rfl ?_
            refine jr_getR (t := 8) F dX8_tiesOf_33 fg_X8_31 (Nat.le_of_ble_eq_true rfl) rfl rfl ?_
            refine jr_bipush F dX8_tiesOf_36 (by decide) ?_
            refine jr_iload F dX8_tiesOf_38 rfl ?_
            refine jr_imul F dX8_tiesOf_40 ?_
            refine jr_iconst F dX8_tiesOf_41 ?_
            refine jr_iadd F dX8_tiesOf_42 ?_
            refine jr_iald F dX8_tiesOf_43 (Nat.le_of_ble_eq_true rfl) rfl (by omega) (fun q43 => ?_) (by omega) (by omega)
            have v43 : u 8 (((7 * i) + 1)) = (tfa w i 1) := (rmT hMu (t := i) (f := 1) (by omega) (by omega) (by omega) (by omega))
            rw [v43] at q43
            refine jr_ti v43 ?_
            refine jr_iload_n F dX8_tiesOf_44 rfl ?_
            refine jr_vI F dX8_tiesOf_45 cv_X8_188 (c_X8_isKnown (by assumption) (by omega) (by omega)) (Nat.le_of_ble_eq_true rfl) rfl rfl rfl rfl (Nat.le_of_ble_eq_true rfl) (Nat.le_of_ble_eq_true rfl) rfl (Nat.le_of_ble_eq_true rfl) ?_
            refine jr_ifeq_b (tgt := 91) F dX8_tiesOf_48 (by decide) (fun c48 => ?_) (fun c48 => ?_)
            · skip
              refine jr_iconst F dX8_tiesOf_91 ?_
              refine jr_istore F dX8_tiesOf_92 (Nat.le_of_ble_eq_true rfl) rfl ?_
              refine jr_iload_n F dX8_tiesOf_94 rfl ?_
              refine jr_iload F dX8_tiesOf_95 rfl ?_
              refine jr_if_eq (tgt := 118) F dX8_tiesOf_97 (by decide) (fun c97 => ?_) (fun c97 => ?_) (by omega)
              · skip
                refine jr_iconst F dX8_tiesOf_118 ?_
                have kn : knw w (tfa w i 1) e ↔ fa w (tfa w i 1) 4 ≤ e := ⟨fun q => q.2.2, fun q => ⟨by omega, by omega, q⟩⟩
                have kn3 : 0 ≤ tfa w i 3 → (knw w (tfa w i 3) e ↔ fa w (tfa w i 3) 4 ≤ e) := fun y => ⟨fun q => q.2.2, fun q => ⟨y, by omega, q⟩⟩
                try have KN : ¬ blS w s e i := by unfold blS; rw [kn]; first | (intro q; omega) | (intro q; rw [kn3 (by omega)] at q; omega) | (intro q; exact c108 (by rw [h104.1]; exact q.2))
                try have KY : blS w s e i := by unfold blS; rw [kn]; first | exact ⟨⟨by omega, by omega, Or.inl (by omega)⟩, by omega⟩ | exact ⟨⟨by omega, by omega, Or.inr ((kn3 (by omega)).mpr (by omega))⟩, by omega⟩
                refine jr_ior F dX8_tiesOf_119 ?_
                refine jr_top (z := bsI (blS w s e) (i + 1)) F (by rw [hz]; first | exact b_orT i0 (by omega) KY | exact b_orF i0 (by omega) KN) ?_
                refine jr_istore_n F dX8_tiesOf_120 (Nat.le_of_ble_eq_true rfl) rfl ?_
                refine jr_iinc F dX8_tiesOf_121 rfl (Nat.le_of_ble_eq_true rfl) rfl ?_
                refine jr_goto (tgt := 5) F dX8_tiesOf_124 (by decide) ?_
                first | exact jr_sub (ih5 _ (i + 1) _ (by omega) (by omega) (by omega) u104 rfl) ⟨rfl, rfl, rfl, rfl, rfl, trivial⟩ | exact jr_sub (ih5 _ (i + 1) _ (by omega) (by omega) (by omega) hu rfl) ⟨rfl, rfl, rfl, rfl, rfl, trivial⟩
              · exact absurd c97 (by omega)
            · skip
              refine jr_aload_n F dX8_tiesOf_51 rfl ?_
              refine jr_getR (t := 8) F dX8_tiesOf_52 fg_X8_31 (Nat.le_of_ble_eq_true rfl) rfl rfl ?_
              refine jr_bipush F dX8_tiesOf_55 (by decide) ?_
              refine jr_iload F dX8_tiesOf_57 rfl ?_
              refine jr_imul F dX8_tiesOf_59 ?_
              refine jr_iconst F dX8_tiesOf_60 ?_
              refine jr_iadd F dX8_tiesOf_61 ?_
              refine jr_iald F dX8_tiesOf_62 (Nat.le_of_ble_eq_true rfl) rfl (by omega) (fun q62 => ?_) (by omega) (by omega)
              have v62 : u 8 (((7 * i) + 3)) = (tfa w i 3) := (rmT hMu (t := i) (f := 3) (by omega) (by omega) (by omega) (by omega))
              rw [v62] at q62
              refine jr_ti v62 ?_
              refine jr_iconst F dX8_tiesOf_63 ?_
              refine jr_icmp_eq (tgt := 87) F dX8_tiesOf_64 (by decide) (fun c64 => ?_) (fun c64 => ?_) (by omega) (by omega)
              · skip
                refine jr_iconst F dX8_tiesOf_87 ?_
                refine jr_goto (tgt := 92) F dX8_tiesOf_88 (by decide) ?_
                refine jr_istore F dX8_tiesOf_92 (Nat.le_of_ble_eq_true rfl) rfl ?_
                refine jr_iload_n F dX8_tiesOf_94 rfl ?_
                refine jr_iload F dX8_tiesOf_95 rfl ?_
                refine jr_if_eq (tgt := 118) F dX8_tiesOf_97 (by decide) (fun c97 => ?_) (fun c97 => ?_) (by omega)
                · exact absurd c97 (by omega)
                · skip
                  refine jr_aload_n F dX8_tiesOf_100 rfl ?_
                  refine jr_iload_n F dX8_tiesOf_101 rfl ?_
                  refine jr_iload F dX8_tiesOf_102 rfl ?_
                  refine jr_vE F dX8_tiesOf_104 cv_X8_185 (c_X8_believesOf hMu h11 h14 hX hs (by omega) (by omega)) (Nat.le_of_ble_eq_true rfl) rfl rfl rfl rfl (Nat.le_of_ble_eq_true rfl) (Nat.le_of_ble_eq_true rfl) rfl (Nat.le_of_ble_eq_true rfl) (fun r104 w104 h104 => ?_)
                  have u104 : wk m w104 := wk_t hu h104.2
                  have r104e := h104.1
                  have bR : -49 ≤ r104 ∧ r104 ≤ 78 := by rw [h104.1]; exact blf_R hX h11 h14 hs
                  refine jr_iconst F dX8_tiesOf_107 ?_
                  refine jr_icmp_ne (tgt := 118) F dX8_tiesOf_108 (by decide) (fun c108 => ?_) (fun c108 => ?_) (by omega) (by omega)
                  · skip
                    refine jr_iconst F dX8_tiesOf_118 ?_
                    have kn : knw w (tfa w i 1) e ↔ fa w (tfa w i 1) 4 ≤ e := ⟨fun q => q.2.2, fun q => ⟨by omega, by omega, q⟩⟩
                    have kn3 : 0 ≤ tfa w i 3 → (knw w (tfa w i 3) e ↔ fa w (tfa w i 3) 4 ≤ e) := fun y => ⟨fun q => q.2.2, fun q => ⟨y, by omega, q⟩⟩
                    try have KN : ¬ blS w s e i := by unfold blS; rw [kn]; first | (intro q; omega) | (intro q; rw [kn3 (by omega)] at q; omega) | (intro q; exact c108 (by rw [h104.1]; exact q.2))
                    try have KY : blS w s e i := by unfold blS; rw [kn]; first | exact ⟨⟨by omega, by omega, Or.inl (by omega)⟩, by omega⟩ | exact ⟨⟨by omega, by omega, Or.inr ((kn3 (by omega)).mpr (by omega))⟩, by omega⟩
                    refine jr_ior F dX8_tiesOf_119 ?_
                    refine jr_top (z := bsI (blS w s e) (i + 1)) F (by rw [hz]; first | exact b_orT i0 (by omega) KY | exact b_orF i0 (by omega) KN) ?_
                    refine jr_istore_n F dX8_tiesOf_120 (Nat.le_of_ble_eq_true rfl) rfl ?_
                    refine jr_iinc F dX8_tiesOf_121 rfl (Nat.le_of_ble_eq_true rfl) rfl ?_
                    refine jr_goto (tgt := 5) F dX8_tiesOf_124 (by decide) ?_
                    first | exact jr_sub (ih5 _ (i + 1) _ (by omega) (by omega) (by omega) u104 rfl) ⟨rfl, rfl, rfl, rfl, rfl, trivial⟩ | exact jr_sub (ih5 _ (i + 1) _ (by omega) (by omega) (by omega) hu rfl) ⟨rfl, rfl, rfl, rfl, rfl, trivial⟩
                  · skip
                    refine jr_iconst F dX8_tiesOf_111 ?_
                    refine jr_iload F dX8_tiesOf_112 rfl ?_
                    refine jr_ishl F dX8_tiesOf_114 ?_
                    refine jr_goto (tgt := 119) F dX8_tiesOf_115 (by decide) ?_
                    have kn : knw w (tfa w i 1) e ↔ fa w (tfa w i 1) 4 ≤ e := ⟨fun q => q.2.2, fun q => ⟨by omega, by omega, q⟩⟩
                    have kn3 : 0 ≤ tfa w i 3 → (knw w (tfa w i 3) e ↔ fa w (tfa w i 3) 4 ≤ e) := fun y => ⟨fun q => q.2.2, fun q => ⟨y, by omega, q⟩⟩
                    try have KN : ¬ blS w s e i := by unfold blS; rw [kn]; first | (intro q; omega) | (intro q; rw [kn3 (by omega)] at q; omega) | (intro q; exact c108 (by rw [h104.1]; exact q.2))
                    try have KY : blS w s e i := by unfold blS; rw [kn]; first | exact ⟨⟨by omega, by omega, Or.inl (by omega)⟩, by omega⟩ | exact ⟨⟨by omega, by omega, Or.inr ((kn3 (by omega)).mpr (by omega))⟩, by omega⟩
                    refine jr_ior F dX8_tiesOf_119 ?_
                    refine jr_top (z := bsI (blS w s e) (i + 1)) F (by rw [hz]; first | exact b_orT i0 (by omega) KY | exact b_orF i0 (by omega) KN) ?_
                    refine jr_istore_n F dX8_tiesOf_120 (Nat.le_of_ble_eq_true rfl) rfl ?_
                    refine jr_iinc F dX8_tiesOf_121 rfl (Nat.le_of_ble_eq_true rfl) rfl ?_
                    refine jr_goto (tgt := 5) F dX8_tiesOf_124 (by decide) ?_
                    first | exact jr_sub (ih5 _ (i + 1) _ (by omega) (by omega) (by omega) u104 rfl) ⟨rfl, rfl, rfl, rfl, rfl, trivial⟩ | exact jr_sub (ih5 _ (i + 1) _ (by omega) (by omega) (by omega) hu rfl) ⟨rfl, rfl, rfl, rfl, rfl, trivial⟩
              · skip
                refine jr_aload_n F dX8_tiesOf_67 rfl ?_
                refine jr_aload_n F dX8_tiesOf_68 rfl ?_
                refine jr_getR (t := 8) F dX8_tiesOf_69 fg_X8_31 (Nat.le_of_ble_eq_true rfl) rfl rfl ?_
                refine jr_bipush F dX8_tiesOf_72 (by decide) ?_
                refine jr_iload F dX8_tiesOf_74 rfl ?_
                refine jr_imul F dX8_tiesOf_76 ?_
                refine jr_iconst F dX8_tiesOf_77 ?_
                refine jr_iadd F dX8_tiesOf_78 ?_
                refine jr_iald F dX8_tiesOf_79 (Nat.le_of_ble_eq_true rfl) rfl (by omega) (fun q79 => ?_) (by omega) (by omega)
                have v79 : u 8 (((7 * i) + 3)) = (tfa w i 3) := (rmT hMu (t := i) (f := 3) (by omega) (by omega) (by omega) (by omega))
                rw [v79] at q79
                refine jr_ti v79 ?_
                refine jr_iload_n F dX8_tiesOf_80 rfl ?_
                refine jr_vI F dX8_tiesOf_81 cv_X8_188 (c_X8_isKnown (by assumption) (by omega) (by omega)) (Nat.le_of_ble_eq_true rfl) rfl rfl rfl rfl (Nat.le_of_ble_eq_true rfl) (Nat.le_of_ble_eq_true rfl) rfl (Nat.le_of_ble_eq_true rfl) ?_
                refine jr_ifeq_b (tgt := 91) F dX8_tiesOf_84 (by decide) (fun c84 => ?_) (fun c84 => ?_)
                · skip
                  refine jr_iconst F dX8_tiesOf_91 ?_
                  refine jr_istore F dX8_tiesOf_92 (Nat.le_of_ble_eq_true rfl) rfl ?_
                  refine jr_iload_n F dX8_tiesOf_94 rfl ?_
                  refine jr_iload F dX8_tiesOf_95 rfl ?_
                  refine jr_if_eq (tgt := 118) F dX8_tiesOf_97 (by decide) (fun c97 => ?_) (fun c97 => ?_) (by omega)
                  · skip
                    refine jr_iconst F dX8_tiesOf_118 ?_
                    have kn : knw w (tfa w i 1) e ↔ fa w (tfa w i 1) 4 ≤ e := ⟨fun q => q.2.2, fun q => ⟨by omega, by omega, q⟩⟩
                    have kn3 : 0 ≤ tfa w i 3 → (knw w (tfa w i 3) e ↔ fa w (tfa w i 3) 4 ≤ e) := fun y => ⟨fun q => q.2.2, fun q => ⟨y, by omega, q⟩⟩
                    try have KN : ¬ blS w s e i := by unfold blS; rw [kn]; first | (intro q; omega) | (intro q; rw [kn3 (by omega)] at q; omega) | (intro q; exact c108 (by rw [h104.1]; exact q.2))
                    try have KY : blS w s e i := by unfold blS; rw [kn]; first | exact ⟨⟨by omega, by omega, Or.inl (by omega)⟩, by omega⟩ | exact ⟨⟨by omega, by omega, Or.inr ((kn3 (by omega)).mpr (by omega))⟩, by omega⟩
                    refine jr_ior F dX8_tiesOf_119 ?_
                    refine jr_top (z := bsI (blS w s e) (i + 1)) F (by rw [hz]; first | exact b_orT i0 (by omega) KY | exact b_orF i0 (by omega) KN) ?_
                    refine jr_istore_n F dX8_tiesOf_120 (Nat.le_of_ble_eq_true rfl) rfl ?_
                    refine jr_iinc F dX8_tiesOf_121 rfl (Nat.le_of_ble_eq_true rfl) rfl ?_
                    refine jr_goto (tgt := 5) F dX8_tiesOf_124 (by decide) ?_
                    first | exact jr_sub (ih5 _ (i + 1) _ (by omega) (by omega) (by omega) u104 rfl) ⟨rfl, rfl, rfl, rfl, rfl, trivial⟩ | exact jr_sub (ih5 _ (i + 1) _ (by omega) (by omega) (by omega) hu rfl) ⟨rfl, rfl, rfl, rfl, rfl, trivial⟩
                  · exact absurd c97 (by omega)
                · skip
                  refine jr_iconst F dX8_tiesOf_87 ?_
                  refine jr_goto (tgt := 92) F dX8_tiesOf_88 (by decide) ?_
                  refine jr_istore F dX8_tiesOf_92 (Nat.le_of_ble_eq_true rfl) rfl ?_
                  refine jr_iload_n F dX8_tiesOf_94 rfl ?_
                  refine jr_iload F dX8_tiesOf_95 rfl ?_
                  refine jr_if_eq (tgt := 118) F dX8_tiesOf_97 (by decide) (fun c97 => ?_) (fun c97 => ?_) (by omega)
                  · exact absurd c97 (by omega)
                  · skip
                    refine jr_aload_n F dX8_tiesOf_100 rfl ?_
                    refine jr_iload_n F dX8_tiesOf_101 rfl ?_
                    refine jr_iload F dX8_tiesOf_102 rfl ?_
                    refine jr_vE F dX8_tiesOf_104 cv_X8_185 (c_X8_believesOf hMu h11 h14 hX hs (by omega) (by omega)) (Nat.le_of_ble_eq_true rfl) rfl rfl rfl rfl (Nat.le_of_ble_eq_true rfl) (Nat.le_of_ble_eq_true rfl) rfl (Nat.le_of_ble_eq_true rfl) (fun r104 w104 h104 => ?_)
                    have u104 : wk m w104 := wk_t hu h104.2
                    have r104e := h104.1
                    have bR : -49 ≤ r104 ∧ r104 ≤ 78 := by rw [h104.1]; exact blf_R hX h11 h14 hs
                    refine jr_iconst F dX8_tiesOf_107 ?_
                    refine jr_icmp_ne (tgt := 118) F dX8_tiesOf_108 (by decide) (fun c108 => ?_) (fun c108 => ?_) (by omega) (by omega)
                    · skip
                      refine jr_iconst F dX8_tiesOf_118 ?_
                      have kn : knw w (tfa w i 1) e ↔ fa w (tfa w i 1) 4 ≤ e := ⟨fun q => q.2.2, fun q => ⟨by omega, by omega, q⟩⟩
                      have kn3 : 0 ≤ tfa w i 3 → (knw w (tfa w i 3) e ↔ fa w (tfa w i 3) 4 ≤ e) := fun y => ⟨fun q => q.2.2, fun q => ⟨y, by omega, q⟩⟩
                      try have KN : ¬ blS w s e i := by unfold blS; rw [kn]; first | (intro q; omega) | (intro q; rw [kn3 (by omega)] at q; omega) | (intro q; exact c108 (by rw [h104.1]; exact q.2))
                      try have KY : blS w s e i := by unfold blS; rw [kn]; first | exact ⟨⟨by omega, by omega, Or.inl (by omega)⟩, by omega⟩ | exact ⟨⟨by omega, by omega, Or.inr ((kn3 (by omega)).mpr (by omega))⟩, by omega⟩
                      refine jr_ior F dX8_tiesOf_119 ?_
                      refine jr_top (z := bsI (blS w s e) (i + 1)) F (by rw [hz]; first | exact b_orT i0 (by omega) KY | exact b_orF i0 (by omega) KN) ?_
                      refine jr_istore_n F dX8_tiesOf_120 (Nat.le_of_ble_eq_true rfl) rfl ?_
                      refine jr_iinc F dX8_tiesOf_121 rfl (Nat.le_of_ble_eq_true rfl) rfl ?_
                      refine jr_goto (tgt := 5) F dX8_tiesOf_124 (by decide) ?_
                      first | exact jr_sub (ih5 _ (i + 1) _ (by omega) (by omega) (by omega) u104 rfl) ⟨rfl, rfl, rfl, rfl, rfl, trivial⟩ | exact jr_sub (ih5 _ (i + 1) _ (by omega) (by omega) (by omega) hu rfl) ⟨rfl, rfl, rfl, rfl, rfl, trivial⟩
                    · skip
                      refine jr_iconst F dX8_tiesOf_111 ?_
                      refine jr_iload F dX8_tiesOf_112 rfl ?_
                      refine jr_ishl F dX8_tiesOf_114 ?_
                      refine jr_goto (tgt := 119) F dX8_tiesOf_115 (by decide) ?_
                      have kn : knw w (tfa w i 1) e ↔ fa w (tfa w i 1) 4 ≤ e := ⟨fun q => q.2.2, fun q => ⟨by omega, by omega, q⟩⟩
                      have kn3 : 0 ≤ tfa w i 3 → (knw w (tfa w i 3) e ↔ fa w (tfa w i 3) 4 ≤ e) := fun y => ⟨fun q => q.2.2, fun q => ⟨y, by omega, q⟩⟩
                      try have KN : ¬ blS w s e i := by unfold blS; rw [kn]; first | (intro q; omega) | (intro q; rw [kn3 (by omega)] at q; omega) | (intro q; exact c108 (by rw [h104.1]; exact q.2))
                      try have KY : blS w s e i := by unfold blS; rw [kn]; first | exact ⟨⟨by omega, by omega, Or.inl (by omega)⟩, by omega⟩ | exact ⟨⟨by omega, by omega, Or.inr ((kn3 (by omega)).mpr (by omega))⟩, by omega⟩
                      refine jr_ior F dX8_tiesOf_119 ?_
                      refine jr_top (z := bsI (blS w s e) (i + 1)) F (by rw [hz]; first | exact b_orT i0 (by omega) KY | exact b_orF i0 (by omega) KN) ?_
                      refine jr_istore_n F dX8_tiesOf_120 (Nat.le_of_ble_eq_true rfl) rfl ?_
                      refine jr_iinc F dX8_tiesOf_121 rfl (Nat.le_of_ble_eq_true rfl) rfl ?_
                      refine jr_goto (tgt := 5) F dX8_tiesOf_124 (by decide) ?_
                      first | exact jr_sub (ih5 _ (i + 1) _ (by omega) (by omega) (by omega) u104 rfl) ⟨rfl, rfl, rfl, rfl, rfl, trivial⟩ | exact jr_sub (ih5 _ (i + 1) _ (by omega) (by omega) (by omega) hu rfl) ⟨rfl, rfl, rfl, rfl, rfl, trivial⟩
  exact jr_sub (L5 _ _ 0 0 (Nat.lt_succ_self _) (by omega) (by omega) (wk_r m) rfl) ⟨rfl, rfl, rfl, rfl, rfl, trivial⟩

