/-! the reference's cells against the class' -/
def RMn (w m : Wd) : Prop := m 0 0 = w 1 3 ∧ m 0 8 = w 5 3 ∧ m 0 11 = w 18 1 ∧ m 0 16 = w 8 3 ∧ m 0 18 = w 0 8
def RMr (w m : Wd) : Prop := ∀ r : Int, m 1 r = w 2 (r * 6 + 0) ∧ m 2 r = w 2 (r * 6 + 1) ∧ m 3 r = w 2 (r * 6 + 2) ∧ m 4 r = w 2 (r * 6 + 3) ∧ m 5 r = w 2 (r * 6 + 4) ∧ m 6 r = w 2 (r * 6 + 5)
def RMt (w m : Wd) : Prop := m 7 = w 3 ∧ m 8 = w 6 ∧ m 9 = w 7 ∧ m 10 = w 19
def RMs (w m : Wd) : Prop := (m 11 0 = w 11 2 ∧ m 11 1 = w 14 2) ∧ (∀ i : Int, 0 ≤ i → i < 360 → m 12 i = w 12 i ∧ m 12 (360 + i) = w 15 i) ∧ ∀ i : Int, 0 ≤ i → i < 6 → m 13 i = w 13 i ∧ m 13 (6 + i) = w 16 i
def RMw (w m : Wd) : Prop := ∀ t : Int, m 14 (5 * t) = w 9 (t * 7 + 1) ∧ m 14 (5 * t + 1) = w 9 (t * 7 + 2) ∧ m 14 (5 * t + 2) = w 9 (t * 7 + 3) ∧ m 14 (5 * t + 3) = w 9 (t * 7 + 4) ∧ m 14 (5 * t + 4) = w 9 (t * 7 + 5)
def RM (w m : Wd) : Prop := RMn w m ∧ RMr w m ∧ RMt w m ∧ RMs w m ∧ RMw w m
theorem rn0 {w m : Wd} (h : RM w m) : m 0 0 = w 1 3 := h.1.1
theorem rn8 {w m : Wd} (h : RM w m) : m 0 8 = w 5 3 := h.1.2.1
theorem rn11 {w m : Wd} (h : RM w m) : m 0 11 = w 18 1 := h.1.2.2.1
theorem rn16 {w m : Wd} (h : RM w m) : m 0 16 = w 8 3 := h.1.2.2.2.1
theorem rn18 {w m : Wd} (h : RM w m) : m 0 18 = w 0 8 := h.1.2.2.2.2
theorem rmf0 {w m : Wd} (h : RM w m) {r : Int} (h0 : 0 ≤ r) (h1 : r < 10) : m 1 r = fa w r 0 := by rw [(h.2.1 r).1, fa_in h0 h1 (by omega) (by omega)]
theorem rmf1 {w m : Wd} (h : RM w m) {r : Int} (h0 : 0 ≤ r) (h1 : r < 10) : m 2 r = fa w r 1 := by rw [(h.2.1 r).2.1, fa_in h0 h1 (by omega) (by omega)]
theorem rmf2 {w m : Wd} (h : RM w m) {r : Int} (h0 : 0 ≤ r) (h1 : r < 10) : m 3 r = fa w r 2 := by rw [(h.2.1 r).2.2.1, fa_in h0 h1 (by omega) (by omega)]
theorem rmf3 {w m : Wd} (h : RM w m) {r : Int} (h0 : 0 ≤ r) (h1 : r < 10) : m 4 r = fa w r 3 := by rw [(h.2.1 r).2.2.2.1, fa_in h0 h1 (by omega) (by omega)]
theorem rmf4 {w m : Wd} (h : RM w m) {r : Int} (h0 : 0 ≤ r) (h1 : r < 10) : m 5 r = fa w r 4 := by rw [(h.2.1 r).2.2.2.2.1, fa_in h0 h1 (by omega) (by omega)]
theorem rmf5 {w m : Wd} (h : RM w m) {r : Int} (h0 : 0 ≤ r) (h1 : r < 10) : m 6 r = fa w r 5 := by rw [(h.2.1 r).2.2.2.2.2, fa_in h0 h1 (by omega) (by omega)]
theorem rmt {w m : Wd} (h : RM w m) {r : Int} (h0 : 0 ≤ r := by omega) (h1 : r < 10 := by omega) : m 7 r = td w r := by rw [h.2.2.1.1, td_in h0 h1]
theorem rmT {w m : Wd} (h : RM w m) {t f : Int} (h0 : 0 ≤ t) (h1 : t < 8) (f0 : 0 ≤ f) (f1 : f < 7) : m 8 (7 * t + f) = tfa w t f := by rw [h.2.2.1.2.1, tfa_in h0 h1 f0 f1, Int.mul_comm 7 t]
theorem rmT0 {w m : Wd} (h : RM w m) {t : Int} (h0 : 0 ≤ t) (h1 : t < 8) : m 8 (7 * t) = tfa w t 0 := by have := rmT h h0 h1 (f := 0) (by omega) (by omega); rwa [Int.add_zero] at this
theorem rmY {w m : Wd} (h : RM w m) {t f : Int} (h0 : 0 ≤ t) (h1 : t < 8) (f0 : 0 ≤ f) (f1 : f < 3) : m 9 (3 * t + f) = tyr w t f := by rw [h.2.2.1.2.2.1, tyr_in h0 h1 f0 f1, Int.mul_comm 3 t]
theorem rmY0 {w m : Wd} (h : RM w m) {t : Int} (h0 : 0 ≤ t) (h1 : t < 8) : m 9 (3 * t) = tyr w t 0 := by have := rmY h h0 h1 (f := 0) (by omega) (by omega); rwa [Int.add_zero] at this
theorem rmP {w m : Wd} (h : RM w m) {i : Int} (h0 : 0 ≤ i) (h1 : i < 60) : m 10 i = pgl w i := by rw [h.2.2.1.2.2.2, pgl_in h0 h1]
theorem jr_okM {G : Gc} {X : Xc} {post : Option Value → Wd → Prop} {pc : Nat} {lv : List (Option Value)} {st : List Value} {w : Wd} (k : okW G w → Jw G X post pc lv st w) : Jw G X post pc lv st w :=
  fun H locs ls hP hD hS hO hl => k hO H locs ls hP hD hS hO hl
/-- the last reign of a land so far -/
noncomputable def lsr (w : Wd) (l : Int) : Nat → Int
  | 0 => -1
  | n + 1 => if fa w (n : Nat) 0 = l then (n : Nat) else lsr w l n
theorem lsr_y {w : Wd} {l i : Int} (h0 : 0 ≤ i) (h : fa w i 0 = l) : lsr w l (i + 1).toNat = i := by rw [show (i + 1).toNat = i.toNat + 1 by omega, lsr, Int.toNat_of_nonneg h0, if_pos h]
theorem lsr_n {w : Wd} {l i : Int} (h0 : 0 ≤ i) (h : ¬ fa w i 0 = l) : lsr w l (i + 1).toNat = lsr w l i.toNat := by rw [show (i + 1).toNat = i.toNat + 1 by omega, lsr, Int.toNat_of_nonneg h0, if_neg h]
theorem lsr_R (w : Wd) (l : Int) : ∀ n : Nat, -1 ≤ lsr w l n ∧ lsr w l n < n
  | 0 => by unfold lsr; omega
  | n + 1 => by have := lsr_R w l n; unfold lsr; split <;> omega

set_option maxRecDepth 100000 in
set_option maxHeartbeats 4000000 in
theorem c_X8_lies {B : Bs} {m : Wd} {v a b : Int} (hv : inR v) (ha : inR a) (hb : inR b) : Sp (GM B) 0 yX8_lies cX8_lies 3 (Option.some FieldType.boolean) [iv (v), iv (a), iv (b)] m (pI m (bi (a ≤ v ∧ v ≤ b))) := by
  refine Sp.of (by decide) (Nat.le_of_ble_eq_true rfl) (fun X F => ?_)
  show Jw (GM B) X _ 0 [some (iv (v)), some (iv (a)), some (iv (b))] [] m
  refine jr_iload_n F dX8_lies_0 rfl ?_
  refine jr_iload_n F dX8_lies_1 rfl ?_
  refine jr_icmp_lt (tgt := 14) F dX8_lies_2 (by decide) (fun c2 => ?_) (fun c2 => ?_) (by omega) (by omega)
  · skip
    refine jr_iconst F dX8_lies_14 ?_
    exact jr_zret F dX8_lies_15 (pI_of (bi_f (by omega)).symm rfl) (by omega)
  · skip
    refine jr_iload_n F dX8_lies_5 rfl ?_
    refine jr_iload_n F dX8_lies_6 rfl ?_
    refine jr_icmp_gt (tgt := 14) F dX8_lies_7 (by decide) (fun c7 => ?_) (fun c7 => ?_) (by omega) (by omega)
    · skip
      refine jr_iconst F dX8_lies_14 ?_
      exact jr_zret F dX8_lies_15 (pI_of (bi_f (by omega)).symm rfl) (by omega)
    · skip
      refine jr_iconst F dX8_lies_10 ?_
      refine jr_goto (tgt := 15) F dX8_lies_11 (by decide) ?_
      exact jr_zret F dX8_lies_15 (pI_of (bi_t (by omega)).symm rfl) (by omega)

set_option maxRecDepth 100000 in
set_option maxHeartbeats 4000000 in
theorem c_X8_isReign {B : Bs} {w m : Wd} {r : Int} (hM : RM w m) (h3 : 0 ≤ w 1 3 ∧ w 1 3 ≤ 10) (hr : inR r) : Sp (GM B) 1 yX8_isReign cX8_isReign 2 (Option.some FieldType.boolean) [.ref (ga (GM B) (0)), iv (r)] m (pI m (bi (0 ≤ r ∧ r < w 1 3))) := by
  refine Sp.of (by decide) (Nat.le_of_ble_eq_true rfl) (fun X F => ?_)
  show Jw (GM B) X _ 0 [some (.ref (ga (GM B) (0))), some (iv (r))] [] m
  refine jr_iload_n F dX8_isReign_0 rfl ?_
  refine jr_iconst F dX8_isReign_1 ?_
  refine jr_aload_n F dX8_isReign_2 rfl ?_
  refine jr_getIx F (w 1 3) dX8_isReign_3 fg_X8_84 (Nat.le_of_ble_eq_true rfl) rfl rfl ((show m 0 0 = (w 1 3) from rn0 hM)) (fun q3 => ?_)
  refine jr_iconst F dX8_isReign_6 ?_
  refine jr_isub F dX8_isReign_7 ?_
  refine jr_sI F dX8_isReign_8 cs_X8_88 (c_X8_lies (by omega) (by omega) (by omega)) rfl (Nat.le_of_ble_eq_true rfl) (Nat.le_of_ble_eq_true rfl) rfl (Nat.le_of_ble_eq_true rfl) ?_
  exact jr_zret F dX8_isReign_11 (pI_of (bi_c (by omega)) rfl) (bi_01 _)

set_option maxRecDepth 100000 in
set_option maxHeartbeats 4000000 in
theorem c_X8_isTie {B : Bs} {w m : Wd} {t : Int} (hM : RM w m) (h5 : 0 ≤ w 5 3 ∧ w 5 3 ≤ 8) (hr : inR t) : Sp (GM B) 1 yX8_isTie cX8_isTie 2 (Option.some FieldType.boolean) [.ref (ga (GM B) (0)), iv (t)] m (pI m (bi (0 ≤ t ∧ t < w 5 3))) := by
  refine Sp.of (by decide) (Nat.le_of_ble_eq_true rfl) (fun X F => ?_)
  show Jw (GM B) X _ 0 [some (.ref (ga (GM B) (0))), some (iv (t))] [] m
  refine jr_iload_n F dX8_isTie_0 rfl ?_
  refine jr_iconst F dX8_isTie_1 ?_
  refine jr_aload_n F dX8_isTie_2 rfl ?_
  refine jr_getIx F (w 5 3) dX8_isTie_3 fg_X8_122 (Nat.le_of_ble_eq_true rfl) rfl rfl ((show m 0 8 = (w 5 3) from rn8 hM)) (fun q3 => ?_)
  refine jr_iconst F dX8_isTie_6 ?_
  refine jr_isub F dX8_isTie_7 ?_
  refine jr_sI F dX8_isTie_8 cs_X8_88 (c_X8_lies (by omega) (by omega) (by omega)) rfl (Nat.le_of_ble_eq_true rfl) (Nat.le_of_ble_eq_true rfl) rfl (Nat.le_of_ble_eq_true rfl) ?_
  exact jr_zret F dX8_isTie_11 (pI_of (bi_c (by omega)) rfl) (bi_01 _)

set_option maxRecDepth 100000 in
set_option maxHeartbeats 4000000 in
theorem c_X8_isEdition {B : Bs} {m : Wd} {e : Int} (he : inR e) : Sp (GM B) 1 yX8_isEdition cX8_isEdition 1 (Option.some FieldType.boolean) [iv (e)] m (pI m (bi (0 ≤ e ∧ e ≤ 9))) := by
  refine Sp.of (by decide) (Nat.le_of_ble_eq_true rfl) (fun X F => ?_)
  show Jw (GM B) X _ 0 [some (iv (e))] [] m
  refine jr_iload_n F dX8_isEdition_0 rfl ?_
  refine jr_iconst F dX8_isEdition_1 ?_
  refine jr_bipush F dX8_isEdition_2 (by decide) ?_
  refine jr_sI F dX8_isEdition_4 cs_X8_88 (c_X8_lies (by omega) (by omega) (by omega)) rfl (Nat.le_of_ble_eq_true rfl) (Nat.le_of_ble_eq_true rfl) rfl (Nat.le_of_ble_eq_true rfl) ?_
  exact jr_zret F dX8_isEdition_7 (pI_of (bi_c (by omega)) rfl) (bi_01 _)

set_option maxRecDepth 100000 in
set_option maxHeartbeats 4000000 in
theorem c_X8_isYear {B : Bs} {m : Wd} {y : Int} (hy : inR y) : Sp (GM B) 1 yX8_isYear cX8_isYear 1 (Option.some FieldType.boolean) [iv (y)] m (pI m (bi (-2000 ≤ y ∧ y ≤ 2000))) := by
  refine Sp.of (by decide) (Nat.le_of_ble_eq_true rfl) (fun X F => ?_)
  show Jw (GM B) X _ 0 [some (iv (y))] [] m
  refine jr_iload_n F dX8_isYear_0 rfl ?_
  refine jr_sipush F dX8_isYear_1 (by decide) ?_
  refine jr_sipush F dX8_isYear_4 (by decide) ?_
  refine jr_sI F dX8_isYear_7 cs_X8_88 (c_X8_lies (by omega) (by omega) (by omega)) rfl (Nat.le_of_ble_eq_true rfl) (Nat.le_of_ble_eq_true rfl) rfl (Nat.le_of_ble_eq_true rfl) ?_
  exact jr_zret F dX8_isYear_10 (pI_of (bi_c (by omega)) rfl) (bi_01 _)

set_option maxRecDepth 100000 in
set_option maxHeartbeats 4000000 in
theorem c_X8_isXth {B : Bs} {m : Wd} {x : Int} (hx : inR x) : Sp (GM B) 1 yX8_isXth cX8_isXth 1 (Option.some FieldType.boolean) [iv (x)] m (pI m (bi (1 ≤ x ∧ x ≤ 99))) := by
  refine Sp.of (by decide) (Nat.le_of_ble_eq_true rfl) (fun X F => ?_)
  show Jw (GM B) X _ 0 [some (iv (x))] [] m
  refine jr_iload_n F dX8_isXth_0 rfl ?_
  refine jr_iconst F dX8_isXth_1 ?_
  refine jr_bipush F dX8_isXth_2 (by decide) ?_
  refine jr_sI F dX8_isXth_4 cs_X8_88 (c_X8_lies (by omega) (by omega) (by omega)) rfl (Nat.le_of_ble_eq_true rfl) (Nat.le_of_ble_eq_true rfl) rfl (Nat.le_of_ble_eq_true rfl) ?_
  exact jr_zret F dX8_isXth_7 (pI_of (bi_c (by omega)) rfl) (bi_01 _)

set_option maxRecDepth 100000 in
set_option maxHeartbeats 4000000 in
theorem c_X8_isSchool {B : Bs} {m : Wd} {s : Int} (hs : inR s) : Sp (GM B) 1 yX8_isSchool cX8_isSchool 1 (Option.some FieldType.boolean) [iv (s)] m (pI m (bi (s = 0 ∨ s = 1))) := by
  refine Sp.of (by decide) (Nat.le_of_ble_eq_true rfl) (fun X F => ?_)
  show Jw (GM B) X _ 0 [some (iv (s))] [] m
  refine jr_iload_n F dX8_isSchool_0 rfl ?_
  refine jr_iconst F dX8_isSchool_1 ?_
  refine jr_iconst F dX8_isSchool_2 ?_
  refine jr_sI F dX8_isSchool_3 cs_X8_88 (c_X8_lies (by omega) (by omega) (by omega)) rfl (Nat.le_of_ble_eq_true rfl) (Nat.le_of_ble_eq_true rfl) rfl (Nat.le_of_ble_eq_true rfl) ?_
  exact jr_zret F dX8_isSchool_6 (pI_of (bi_c (by omega)) rfl) (bi_01 _)

set_option maxRecDepth 100000 in
set_option maxHeartbeats 4000000 in
theorem c_X8_isMisread {B : Bs} {m : Wd} {k : Int} (hk : inR k) : Sp (GM B) 0 yX8_isMisread cX8_isMisread 1 (Option.some FieldType.boolean) [iv (k)] m (pI m (bi (isMis k))) := by
  refine Sp.of (by decide) (Nat.le_of_ble_eq_true rfl) (fun X F => ?_)
  show Jw (GM B) X _ 0 [some (iv (k))] [] m
  refine jr_iload_n F dX8_isMisread_0 rfl ?_
  refine jr_iconst F dX8_isMisread_1 ?_
  refine jr_icmp_eq (tgt := 11) F dX8_isMisread_2 (by decide) (fun c2 => ?_) (fun c2 => ?_) (by omega) (by omega)
  · skip
    refine jr_iconst F dX8_isMisread_11 ?_
    refine jr_goto (tgt := 16) F dX8_isMisread_12 (by decide) ?_
    exact jr_zret F dX8_isMisread_16 (pI_of (bi_t (by first | omega | (unfold isMis; omega))).symm rfl) (by omega)
  · skip
    refine jr_iload_n F dX8_isMisread_5 rfl ?_
    refine jr_bipush F dX8_isMisread_6 (by decide) ?_
    refine jr_icmp_ne (tgt := 15) F dX8_isMisread_8 (by decide) (fun c8 => ?_) (fun c8 => ?_) (by omega) (by omega)
    · skip
      refine jr_iconst F dX8_isMisread_15 ?_
      exact jr_zret F dX8_isMisread_16 (pI_of (bi_f (by first | omega | (unfold isMis; omega))).symm rfl) (by omega)
    · skip
      refine jr_iconst F dX8_isMisread_11 ?_
      refine jr_goto (tgt := 16) F dX8_isMisread_12 (by decide) ?_
      exact jr_zret F dX8_isMisread_16 (pI_of (bi_t (by first | omega | (unfold isMis; omega))).symm rfl) (by omega)

set_option maxRecDepth 100000 in
set_option maxHeartbeats 4000000 in
theorem c_X8_lastOf {B : Bs} {w m : Wd} {l : Int} (hM : RM w m) (h3 : 0 ≤ w 1 3 ∧ w 1 3 ≤ 10) (hl : inR l) : Sp (GM B) 0 yX8_lastOf cX8_lastOf 4 (Option.some FieldType.int) [.ref (ga (GM B) (0)), iv (l)] m (pI m (lsr w l (w 1 3).toNat)) := by
  refine Sp.of (by decide) (Nat.le_of_ble_eq_true rfl) (fun X F => ?_)
  show Jw (GM B) X _ 0 [some (.ref (ga (GM B) (0))), some (iv (l))] [] m
  refine jr_iconst F dX8_lastOf_0 ?_
  refine jr_istore_n F dX8_lastOf_1 (Nat.le_of_ble_eq_true rfl) rfl ?_
  refine jr_iconst F dX8_lastOf_2 ?_
  refine jr_istore_n F dX8_lastOf_3 (Nat.le_of_ble_eq_true rfl) rfl ?_
  have L4 : ∀ (fuel : Nat) (i : Int) (z : Int), (w 1 3 - i).toNat < fuel → (0 ≤ i) → (i ≤ w 1 3) → (z = lsr w l i.toNat) → Jw (GM B) X (pI m (lsr w l (w 1 3).toNat)) 4 [some (.ref (ga (GM B) 0)), some (iv l), some (iv z), some (iv i)] [] m := by
    intro fuel
    induction fuel with
    | zero => intro i z hfuel; exact absurd hfuel (Nat.not_lt_zero _)
    | succ fuel ih4 =>
        intro i z hfuel i0 i1 hz
        refine jr_iload_n F dX8_lastOf_4 rfl ?_
        refine jr_aload_n F dX8_lastOf_5 rfl ?_
        refine jr_getIx F (w 1 3) dX8_lastOf_6 fg_X8_84 (Nat.le_of_ble_eq_true rfl) rfl rfl ((show m 0 0 = (w 1 3) from rn0 hM)) (fun q6 => ?_)
        refine jr_icmp_ge (tgt := 34) F dX8_lastOf_9 (by decide) (fun c9 => ?_) (fun c9 => ?_) (by omega) (by omega)
        · skip
          refine jr_iload_n F dX8_lastOf_34 rfl ?_
          exact jr_iret F dX8_lastOf_35 (pI_of (by rw [hz, show i = w 1 3 by omega]) rfl)
        · skip
          refine jr_aload_n F dX8_lastOf_12 rfl ?_
          refine jr_getR (t := 1) F dX8_lastOf_13 fg_X8_7 (Nat.le_of_ble_eq_true rfl) rfl rfl ?_
          refine jr_iload_n F dX8_lastOf_16 rfl ?_
          refine jr_iald F dX8_lastOf_17 (Nat.le_of_ble_eq_true rfl) rfl (by omega) (fun q17 => ?_) (by omega) (by omega)
          have v17 : m 1 (i) = (fa w i 0) := (rmf0 hM (r := i) (by omega) (by omega))
          rw [v17] at q17
          refine jr_ti v17 ?_
          refine jr_iload_n F dX8_lastOf_18 rfl ?_
          refine jr_icmp_ne (tgt := 26) F dX8_lastOf_19 (by decide) (fun c19 => ?_) (fun c19 => ?_) (by omega) (by omega)
          · skip
            refine jr_iload_n F dX8_lastOf_26 rfl ?_
            refine jr_istore_n F dX8_lastOf_27 (Nat.le_of_ble_eq_true rfl) rfl ?_
            refine jr_iinc F dX8_lastOf_28 rfl (Nat.le_of_ble_eq_true rfl) rfl ?_
            refine jr_goto (tgt := 4) F dX8_lastOf_31 (by decide) ?_
            exact jr_sub (ih4 (i + 1) _ (by omega) (by omega) (by omega) (by rw [lsr_n i0 c19, hz])) ⟨rfl, rfl, rfl, rfl, trivial⟩
          · skip
            refine jr_iload_n F dX8_lastOf_22 rfl ?_
            refine jr_goto (tgt := 27) F dX8_lastOf_23 (by decide) ?_
            refine jr_istore_n F dX8_lastOf_27 (Nat.le_of_ble_eq_true rfl) rfl ?_
            refine jr_iinc F dX8_lastOf_28 rfl (Nat.le_of_ble_eq_true rfl) rfl ?_
            refine jr_goto (tgt := 4) F dX8_lastOf_31 (by decide) ?_
            exact jr_sub (ih4 (i + 1) _ (by omega) (by omega) (by omega) (by rw [lsr_y i0 (by omega)])) ⟨rfl, rfl, rfl, rfl, trivial⟩
  exact jr_sub (L4 _ 0 (-1) (Nat.lt_succ_self _) (by omega) (by omega) rfl) ⟨rfl, rfl, rfl, rfl, trivial⟩

set_option maxRecDepth 100000 in
set_option maxHeartbeats 4000000 in
theorem c_X8_aboutOf {B : Bs} {w m : Wd} {r f : Int} (hM : RM w m) (hr : 0 ≤ r ∧ r < 10) (hf : 0 ≤ f ∧ f ≤ 5) : Sp (GM B) 0 yX8_aboutOf cX8_aboutOf 3 (Option.some FieldType.int) [.ref (ga (GM B) (0)), iv (r), iv (f)] m (pI m (fa w r f)) := by
  refine Sp.of (by decide) (Nat.le_of_ble_eq_true rfl) (fun X F => ?_)
  show Jw (GM B) X _ 0 [some (.ref (ga (GM B) (0))), some (iv (r)), some (iv (f))] [] m
  refine jr_iload_n F dX8_aboutOf_0 rfl ?_
  rcases (show f = 0 ∨ f = 1 ∨ f = 2 ∨ f = 3 ∨ f = 4 ∨ (f < 0 ∨ 4 < f) by omega) with c1 | c1 | c1 | c1 | c1 | c1
  · refine jr_tsIn (tgt := 36) F (0) dX8_aboutOf_1 c1 (by omega) (by omega) rfl (by decide) (by omega) ?_
    refine jr_aload_n F dX8_aboutOf_36 rfl ?_
    refine jr_getR (t := 1) F dX8_aboutOf_37 fg_X8_7 (Nat.le_of_ble_eq_true rfl) rfl rfl ?_
    refine jr_iload_n F dX8_aboutOf_40 rfl ?_
    refine jr_iald F dX8_aboutOf_41 (Nat.le_of_ble_eq_true rfl) rfl (by omega) (fun q41 => ?_) (by omega) (by omega)
    have v41 : m 1 (r) = (fa w r 0) := (rmf0 hM (r := r) (by omega) (by omega))
    rw [v41] at q41
    refine jr_ti v41 ?_
    exact jr_iret F dX8_aboutOf_42 (pI_of (by first | (rw [c1]; done) | (rw [show f = 5 by omega])) rfl)
  · refine jr_tsIn (tgt := 43) F (1) dX8_aboutOf_1 c1 (by omega) (by omega) rfl (by decide) (by omega) ?_
    refine jr_aload_n F dX8_aboutOf_43 rfl ?_
    refine jr_getR (t := 2) F dX8_aboutOf_44 fg_X8_13 (Nat.le_of_ble_eq_true rfl) rfl rfl ?_
    refine jr_iload_n F dX8_aboutOf_47 rfl ?_
    refine jr_iald F dX8_aboutOf_48 (Nat.le_of_ble_eq_true rfl) rfl (by omega) (fun q48 => ?_) (by omega) (by omega)
    have v48 : m 2 (r) = (fa w r 1) := (rmf1 hM (r := r) (by omega) (by omega))
    rw [v48] at q48
    refine jr_ti v48 ?_
    exact jr_iret F dX8_aboutOf_49 (pI_of (by first | (rw [c1]; done) | (rw [show f = 5 by omega])) rfl)
  · refine jr_tsIn (tgt := 50) F (2) dX8_aboutOf_1 c1 (by omega) (by omega) rfl (by decide) (by omega) ?_
    refine jr_aload_n F dX8_aboutOf_50 rfl ?_
    refine jr_getR (t := 3) F dX8_aboutOf_51 fg_X8_16 (Nat.le_of_ble_eq_true rfl) rfl rfl ?_
    refine jr_iload_n F dX8_aboutOf_54 rfl ?_
    refine jr_iald F dX8_aboutOf_55 (Nat.le_of_ble_eq_true rfl) rfl (by omega) (fun q55 => ?_) (by omega) (by omega)
    have v55 : m 3 (r) = (fa w r 2) := (rmf2 hM (r := r) (by omega) (by omega))
    rw [v55] at q55
    refine jr_ti v55 ?_
    exact jr_iret F dX8_aboutOf_56 (pI_of (by first | (rw [c1]; done) | (rw [show f = 5 by omega])) rfl)
  · refine jr_tsIn (tgt := 57) F (3) dX8_aboutOf_1 c1 (by omega) (by omega) rfl (by decide) (by omega) ?_
    refine jr_aload_n F dX8_aboutOf_57 rfl ?_
    refine jr_getR (t := 4) F dX8_aboutOf_58 fg_X8_19 (Nat.le_of_ble_eq_true rfl) rfl rfl ?_
    refine jr_iload_n F dX8_aboutOf_61 rfl ?_
    refine jr_iald F dX8_aboutOf_62 (Nat.le_of_ble_eq_true rfl) rfl (by omega) (fun q62 => ?_) (by omega) (by omega)
    have v62 : m 4 (r) = (fa w r 3) := (rmf3 hM (r := r) (by omega) (by omega))
    rw [v62] at q62
    refine jr_ti v62 ?_
    exact jr_iret F dX8_aboutOf_63 (pI_of (by first | (rw [c1]; done) | (rw [show f = 5 by omega])) rfl)
  · refine jr_tsIn (tgt := 64) F (4) dX8_aboutOf_1 c1 (by omega) (by omega) rfl (by decide) (by omega) ?_
    refine jr_aload_n F dX8_aboutOf_64 rfl ?_
    refine jr_getR (t := 5) F dX8_aboutOf_65 fg_X8_22 (Nat.le_of_ble_eq_true rfl) rfl rfl ?_
    refine jr_iload_n F dX8_aboutOf_68 rfl ?_
    refine jr_iald F dX8_aboutOf_69 (Nat.le_of_ble_eq_true rfl) rfl (by omega) (fun q69 => ?_) (by omega) (by omega)
    have v69 : m 5 (r) = (fa w r 4) := (rmf4 hM (r := r) (by omega) (by omega))
    rw [v69] at q69
    refine jr_ti v69 ?_
    exact jr_iret F dX8_aboutOf_70 (pI_of (by first | (rw [c1]; done) | (rw [show f = 5 by omega])) rfl)
  · refine jr_tsOut (tgt := 71) F dX8_aboutOf_1 c1 (by decide) (by omega) ?_
    refine jr_aload_n F dX8_aboutOf_71 rfl ?_
    refine jr_getR (t := 6) F dX8_aboutOf_72 fg_X8_25 (Nat.le_of_ble_eq_true rfl) rfl rfl ?_
    refine jr_iload_n F dX8_aboutOf_75 rfl ?_
    refine jr_iald F dX8_aboutOf_76 (Nat.le_of_ble_eq_true rfl) rfl (by omega) (fun q76 => ?_) (by omega) (by omega)
    have v76 : m 6 (r) = (fa w r 5) := (rmf5 hM (r := r) (by omega) (by omega))
    rw [v76] at q76
    refine jr_ti v76 ?_
    exact jr_iret F dX8_aboutOf_77 (pI_of (by first | (rw [c1]; done) | (rw [show f = 5 by omega])) rfl)

set_option maxRecDepth 100000 in
set_option maxHeartbeats 4000000 in
theorem c_X8_about {B : Bs} {w m : Wd} {r f : Int} (hM : RM w m) (h3 : 0 ≤ w 1 3 ∧ w 1 3 ≤ 10) (hr : inR r) (hf : inR f) : Sp (GM B) 2 yX8_about cX8_about 3 (Option.some FieldType.int) [.ref (ga (GM B) (0)), iv (r), iv (f)] m (pI m (abow w r f)) := by
  refine Sp.of (by decide) (Nat.le_of_ble_eq_true rfl) (fun X F => ?_)
  show Jw (GM B) X _ 0 [some (.ref (ga (GM B) (0))), some (iv (r)), some (iv (f))] [] m
  refine jr_aload_n F dX8_about_0 rfl ?_
  refine jr_iload_n F dX8_about_1 rfl ?_
  refine jr_vI F dX8_about_2 cv_X8_103 (c_X8_isReign hM h3 (by omega)) (Nat.le_of_ble_eq_true rfl) rfl rfl rfl rfl (Nat.le_of_ble_eq_true rfl) (Nat.le_of_ble_eq_true rfl) rfl (Nat.le_of_ble_eq_true rfl) ?_
  refine jr_ifne_b (tgt := 13) F dX8_about_5 (by decide) (fun c5 => ?_) (fun c5 => ?_)
  · skip
    refine jr_iload_n F dX8_about_13 rfl ?_
    refine jr_iconst F dX8_about_14 ?_
    refine jr_iconst F dX8_about_15 ?_
    refine jr_sI F dX8_about_16 cs_X8_88 (c_X8_lies (by omega) (by omega) (by omega)) rfl (Nat.le_of_ble_eq_true rfl) (Nat.le_of_ble_eq_true rfl) rfl (Nat.le_of_ble_eq_true rfl) ?_
    refine jr_ifeq_b (tgt := 31) F dX8_about_19 (by decide) (fun c19 => ?_) (fun c19 => ?_)
    · skip
      refine jr_bipush F dX8_about_31 (by decide) ?_
      exact jr_iret F dX8_about_33 (pI_of (by unfold abow; (repeat' split) <;> first | rfl | omega) rfl)
    · skip
      refine jr_aload_n F dX8_about_22 rfl ?_
      refine jr_iload_n F dX8_about_23 rfl ?_
      refine jr_iload_n F dX8_about_24 rfl ?_
      refine jr_vI F dX8_about_25 cv_X8_106 (c_X8_aboutOf hM (by omega) (by omega)) (Nat.le_of_ble_eq_true rfl) rfl rfl rfl rfl (Nat.le_of_ble_eq_true rfl) (Nat.le_of_ble_eq_true rfl) rfl (Nat.le_of_ble_eq_true rfl) ?_
      refine jr_goto (tgt := 33) F dX8_about_28 (by decide) ?_
      exact jr_iret F dX8_about_33 (pI_of (by unfold abow; (repeat' split) <;> first | rfl | omega) rfl)
  · skip
    refine jr_bipush F dX8_about_8 (by decide) ?_
    refine jr_goto (tgt := 33) F dX8_about_10 (by decide) ?_
    exact jr_iret F dX8_about_33 (pI_of (by unfold abow; (repeat' split) <;> first | rfl | omega) rfl)

set_option maxRecDepth 100000 in
set_option maxHeartbeats 4000000 in
theorem c_X8_as {B : Bs} {w m : Wd} {r k : Int} (hM : RM w m) (h3 : 0 ≤ w 1 3 ∧ w 1 3 ≤ 10) (hr : inR r) (hk : inR k) : Sp (GM B) 2 yX8_as cX8_as 3 (Option.some FieldType.int) [.ref (ga (GM B) (0)), iv (r), iv (k)] m (pI m (asw w r k)) := by
  refine Sp.of (by decide) (Nat.le_of_ble_eq_true rfl) (fun X F => ?_)
  show Jw (GM B) X _ 0 [some (.ref (ga (GM B) (0))), some (iv (r)), some (iv (k))] [] m
  refine jr_aload_n F dX8_as_0 rfl ?_
  refine jr_iload_n F dX8_as_1 rfl ?_
  refine jr_vI F dX8_as_2 cv_X8_103 (c_X8_isReign hM h3 (by omega)) (Nat.le_of_ble_eq_true rfl) rfl rfl rfl rfl (Nat.le_of_ble_eq_true rfl) (Nat.le_of_ble_eq_true rfl) rfl (Nat.le_of_ble_eq_true rfl) ?_
  refine jr_ifne_b (tgt := 11) F dX8_as_5 (by decide) (fun c5 => ?_) (fun c5 => ?_)
  · skip
    refine jr_iload_n F dX8_as_11 rfl ?_
    refine jr_iconst F dX8_as_12 ?_
    refine jr_bipush F dX8_as_13 (by decide) ?_
    refine jr_sI F dX8_as_15 cs_X8_88 (c_X8_lies (by omega) (by omega) (by omega)) rfl (Nat.le_of_ble_eq_true rfl) (Nat.le_of_ble_eq_true rfl) rfl (Nat.le_of_ble_eq_true rfl) ?_
    refine jr_ifne_b (tgt := 24) F dX8_as_18 (by decide) (fun c18 => ?_) (fun c18 => ?_)
    · skip
      refine jr_iload_n F dX8_as_24 rfl ?_
      refine jr_if_eq (tgt := 54) F dX8_as_25 (by decide) (fun c25 => ?_) (fun c25 => ?_) (by omega)
      · skip
        refine jr_iload_n F dX8_as_54 rfl ?_
        refine jr_goto (tgt := 59) F dX8_as_55 (by decide) ?_
        exact jr_iret F dX8_as_59 (pI_of (by unfold asw; (repeat' split) <;> first | rfl | omega) rfl)
      · skip
        refine jr_aload_n F dX8_as_28 rfl ?_
        refine jr_getR (t := 2) F dX8_as_29 fg_X8_13 (Nat.le_of_ble_eq_true rfl) rfl rfl ?_
        refine jr_iload_n F dX8_as_32 rfl ?_
        refine jr_iald F dX8_as_33 (Nat.le_of_ble_eq_true rfl) rfl (by omega) (fun q33 => ?_) (by omega) (by omega)
        have v33 : m 2 (r) = (fa w r 1) := (rmf1 hM (r := r) (by omega) (by omega))
        rw [v33] at q33
        refine jr_ti v33 ?_
        refine jr_iload_n F dX8_as_34 rfl ?_
        refine jr_icmp_eq (tgt := 54) F dX8_as_35 (by decide) (fun c35 => ?_) (fun c35 => ?_) (by omega) (by omega)
        · skip
          refine jr_iload_n F dX8_as_54 rfl ?_
          refine jr_goto (tgt := 59) F dX8_as_55 (by decide) ?_
          exact jr_iret F dX8_as_59 (pI_of (by unfold asw; (repeat' split) <;> first | rfl | omega) rfl)
        · skip
          refine jr_iload_n F dX8_as_38 rfl ?_
          refine jr_iconst F dX8_as_39 ?_
          refine jr_icmp_ne (tgt := 58) F dX8_as_40 (by decide) (fun c40 => ?_) (fun c40 => ?_) (by omega) (by omega)
          · skip
            refine jr_iconst F dX8_as_58 ?_
            exact jr_iret F dX8_as_59 (pI_of (by unfold asw; (repeat' split) <;> first | rfl | omega) rfl)
          · skip
            refine jr_aload_n F dX8_as_43 rfl ?_
            refine jr_getR (t := 2) F dX8_as_44 fg_X8_13 (Nat.le_of_ble_eq_true rfl) rfl rfl ?_
            refine jr_iload_n F dX8_as_47 rfl ?_
            refine jr_iald F dX8_as_48 (Nat.le_of_ble_eq_true rfl) rfl (by omega) (fun q48 => ?_) (by omega) (by omega)
            have v48 : m 2 (r) = (fa w r 1) := (rmf1 hM (r := r) (by omega) (by omega))
            rw [v48] at q48
            refine jr_ti v48 ?_
            refine jr_bipush F dX8_as_49 (by decide) ?_
            refine jr_icmp_ne (tgt := 58) F dX8_as_51 (by decide) (fun c51 => ?_) (fun c51 => ?_) (by omega) (by omega)
            · skip
              refine jr_iconst F dX8_as_58 ?_
              exact jr_iret F dX8_as_59 (pI_of (by unfold asw; (repeat' split) <;> first | rfl | omega) rfl)
            · skip
              refine jr_iload_n F dX8_as_54 rfl ?_
              refine jr_goto (tgt := 59) F dX8_as_55 (by decide) ?_
              exact jr_iret F dX8_as_59 (pI_of (by unfold asw; (repeat' split) <;> first | rfl | omega) rfl)
    · skip
      refine jr_bipush F dX8_as_21 (by decide) ?_
      exact jr_iret F dX8_as_23 (pI_of (by unfold asw; (repeat' split) <;> first | rfl | omega) rfl)
  · skip
    refine jr_bipush F dX8_as_8 (by decide) ?_
    exact jr_iret F dX8_as_10 (pI_of (by unfold asw; (repeat' split) <;> first | rfl | omega) rfl)

set_option maxRecDepth 100000 in
set_option maxHeartbeats 4000000 in
theorem c_X8_otherLength {B : Bs} {w m : Wd} {r c : Int} (hM : RM w m) (hs : smR w r) (hc : 0 ≤ c ∧ c ≤ 1) : Sp (GM B) 0 yX8_otherLength cX8_otherLength 4 (Option.some FieldType.int) [.ref (ga (GM B) (0)), iv (r), iv (c)] m (pI m (othw w r c)) := by
  refine Sp.of (by decide) (Nat.le_of_ble_eq_true rfl) (fun X F => ?_)
  obtain ⟨s0, s1, sf⟩ := id hs
  have f1 := sf 1 (by omega) (by omega)
  have f2 := sf 2 (by omega) (by omega)
  have f3 := sf 3 (by omega) (by omega)
  show Jw (GM B) X _ 0 [some (.ref (ga (GM B) (0))), some (iv (r)), some (iv (c))] [] m
  refine jr_aload_n F dX8_otherLength_0 rfl ?_
  refine jr_getR (t := 2) F dX8_otherLength_1 fg_X8_13 (Nat.le_of_ble_eq_true rfl) rfl rfl ?_
  refine jr_iload_n F dX8_otherLength_4 rfl ?_
  refine jr_iald F dX8_otherLength_5 (Nat.le_of_ble_eq_true rfl) rfl (by omega) (fun q5 => ?_) (by omega) (by omega)
  have v5 : m 2 (r) = (fa w r 1) := (rmf1 hM (r := r) (by omega) (by omega))
  rw [v5] at q5
  refine jr_ti v5 ?_
  refine jr_bipush F dX8_otherLength_6 (by decide) ?_
  refine jr_icmp_ne (tgt := 15) F dX8_otherLength_8 (by decide) (fun c8 => ?_) (fun c8 => ?_) (by omega) (by omega)
  · skip
    refine jr_aload_n F dX8_otherLength_15 rfl ?_
    refine jr_getR (t := 4) F dX8_otherLength_16 fg_X8_19 (Nat.le_of_ble_eq_true rfl) rfl rfl ?_
    refine jr_iload_n F dX8_otherLength_19 rfl ?_
    refine jr_iald F dX8_otherLength_20 (Nat.le_of_ble_eq_true rfl) rfl (by omega) (fun q20 => ?_) (by omega) (by omega)
    have v20 : m 4 (r) = (fa w r 3) := (rmf3 hM (r := r) (by omega) (by omega))
    rw [v20] at q20
    refine jr_ti v20 ?_
    refine jr_istore_n F dX8_otherLength_21 (Nat.le_of_ble_eq_true rfl) rfl ?_
    refine jr_iload_n F dX8_otherLength_22 rfl ?_
    refine jr_iload_n F dX8_otherLength_23 rfl ?_
    refine jr_isub F dX8_otherLength_24 ?_
    refine jr_if_ge (tgt := 32) F dX8_otherLength_25 (by decide) (fun c25 => ?_) (fun c25 => ?_) (by omega)
    · skip
      refine jr_iload_n F dX8_otherLength_32 rfl ?_
      refine jr_iload_n F dX8_otherLength_33 rfl ?_
      refine jr_isub F dX8_otherLength_34 ?_
      exact jr_iret F dX8_otherLength_35 (pI_of (by unfold othw; (repeat' split) <;> first | rfl | omega) rfl)
    · skip
      refine jr_iconst F dX8_otherLength_28 ?_
      refine jr_goto (tgt := 35) F dX8_otherLength_29 (by decide) ?_
      exact jr_iret F dX8_otherLength_35 (pI_of (by unfold othw; (repeat' split) <;> first | rfl | omega) rfl)
  · skip
    refine jr_iconst F dX8_otherLength_11 ?_
    refine jr_goto (tgt := 21) F dX8_otherLength_12 (by decide) ?_
    refine jr_istore_n F dX8_otherLength_21 (Nat.le_of_ble_eq_true rfl) rfl ?_
    refine jr_iload_n F dX8_otherLength_22 rfl ?_
    refine jr_iload_n F dX8_otherLength_23 rfl ?_
    refine jr_isub F dX8_otherLength_24 ?_
    refine jr_if_ge (tgt := 32) F dX8_otherLength_25 (by decide) (fun c25 => ?_) (fun c25 => ?_) (by omega)
    · skip
      refine jr_iload_n F dX8_otherLength_32 rfl ?_
      refine jr_iload_n F dX8_otherLength_33 rfl ?_
      refine jr_isub F dX8_otherLength_34 ?_
      exact jr_iret F dX8_otherLength_35 (pI_of (by unfold othw; (repeat' split) <;> first | rfl | omega) rfl)
    · skip
      refine jr_iconst F dX8_otherLength_28 ?_
      refine jr_goto (tgt := 35) F dX8_otherLength_29 (by decide) ?_
      exact jr_iret F dX8_otherLength_35 (pI_of (by unfold othw; (repeat' split) <;> first | rfl | omega) rfl)

set_option maxRecDepth 100000 in
set_option maxHeartbeats 4000000 in
theorem c_X8_leastOf {B : Bs} {w m : Wd} {r c : Int} (hM : RM w m) (hs : smR w r) (hc : 0 ≤ c ∧ c ≤ 1) : Sp (GM B) 1 yX8_leastOf cX8_leastOf 5 (Option.some FieldType.int) [.ref (ga (GM B) (0)), iv (r), iv (c)] m (pI m (leaw w r c)) := by
  refine Sp.of (by decide) (Nat.le_of_ble_eq_true rfl) (fun X F => ?_)
  obtain ⟨s0, s1, sf⟩ := id hs
  have f1 := sf 1 (by omega) (by omega)
  have f2 := sf 2 (by omega) (by omega)
  have f3 := sf 3 (by omega) (by omega)
  have oo : -61 ≤ othw w r c ∧ othw w r c ≤ 61 := by unfold othw; split <;> omega
  show Jw (GM B) X _ 0 [some (.ref (ga (GM B) (0))), some (iv (r)), some (iv (c))] [] m
  refine jr_aload_n F dX8_leastOf_0 rfl ?_
  refine jr_getR (t := 3) F dX8_leastOf_1 fg_X8_16 (Nat.le_of_ble_eq_true rfl) rfl rfl ?_
  refine jr_iload_n F dX8_leastOf_4 rfl ?_
  refine jr_iald F dX8_leastOf_5 (Nat.le_of_ble_eq_true rfl) rfl (by omega) (fun q5 => ?_) (by omega) (by omega)
  have v5 : m 3 (r) = (fa w r 2) := (rmf2 hM (r := r) (by omega) (by omega))
  rw [v5] at q5
  refine jr_ti v5 ?_
  refine jr_iload_n F dX8_leastOf_6 rfl ?_
  refine jr_isub F dX8_leastOf_7 ?_
  refine jr_istore_n F dX8_leastOf_8 (Nat.le_of_ble_eq_true rfl) rfl ?_
  refine jr_aload_n F dX8_leastOf_9 rfl ?_
  refine jr_iload_n F dX8_leastOf_10 rfl ?_
  refine jr_iload_n F dX8_leastOf_11 rfl ?_
  refine jr_vI F dX8_leastOf_12 cv_X8_110 (c_X8_otherLength hM (by assumption) (by omega)) (Nat.le_of_ble_eq_true rfl) rfl rfl rfl rfl (Nat.le_of_ble_eq_true rfl) (Nat.le_of_ble_eq_true rfl) rfl (Nat.le_of_ble_eq_true rfl) ?_
  refine jr_istore F dX8_leastOf_15 (Nat.le_of_ble_eq_true rfl) rfl ?_
  refine jr_aload_n F dX8_leastOf_17 rfl ?_
  refine jr_getR (t := 2) F dX8_leastOf_18 fg_X8_13 (Nat.le_of_ble_eq_true rfl) rfl rfl ?_
  refine jr_iload_n F dX8_leastOf_21 rfl ?_
  refine jr_iald F dX8_leastOf_22 (Nat.le_of_ble_eq_true rfl) rfl (by omega) (fun q22 => ?_) (by omega) (by omega)
  have v22 : m 2 (r) = (fa w r 1) := (rmf1 hM (r := r) (by omega) (by omega))
  rw [v22] at q22
  refine jr_ti v22 ?_
  refine jr_iconst F dX8_leastOf_23 ?_
  refine jr_icmp_ne (tgt := 31) F dX8_leastOf_24 (by decide) (fun c24 => ?_) (fun c24 => ?_) (by omega) (by omega)
  · skip
    refine jr_aload_n F dX8_leastOf_31 rfl ?_
    refine jr_getR (t := 2) F dX8_leastOf_32 fg_X8_13 (Nat.le_of_ble_eq_true rfl) rfl rfl ?_
    refine jr_iload_n F dX8_leastOf_35 rfl ?_
    refine jr_iald F dX8_leastOf_36 (Nat.le_of_ble_eq_true rfl) rfl (by omega) (fun q36 => ?_) (by omega) (by omega)
    have v36 : m 2 (r) = (fa w r 1) := (rmf1 hM (r := r) (by omega) (by omega))
    rw [v36] at q36
    refine jr_ti v36 ?_
    refine jr_iconst F dX8_leastOf_37 ?_
    refine jr_icmp_ne (tgt := 45) F dX8_leastOf_38 (by decide) (fun c38 => ?_) (fun c38 => ?_) (by omega) (by omega)
    · skip
      refine jr_aload_n F dX8_leastOf_45 rfl ?_
      refine jr_getR (t := 2) F dX8_leastOf_46 fg_X8_13 (Nat.le_of_ble_eq_true rfl) rfl rfl ?_
      refine jr_iload_n F dX8_leastOf_49 rfl ?_
      refine jr_iald F dX8_leastOf_50 (Nat.le_of_ble_eq_true rfl) rfl (by omega) (fun q50 => ?_) (by omega) (by omega)
      have v50 : m 2 (r) = (fa w r 1) := (rmf1 hM (r := r) (by omega) (by omega))
      rw [v50] at q50
      refine jr_ti v50 ?_
      refine jr_sI F dX8_leastOf_51 cs_X8_100 (c_X8_isMisread (by omega)) rfl (Nat.le_of_ble_eq_true rfl) (Nat.le_of_ble_eq_true rfl) rfl (Nat.le_of_ble_eq_true rfl) ?_
      refine jr_ifeq_b (tgt := 68) F dX8_leastOf_54 (by decide) (fun c54 => ?_) (fun c54 => ?_)
      · skip
        refine jr_iload_n F dX8_leastOf_68 rfl ?_
        exact jr_iret F dX8_leastOf_69 (pI_of (by unfold leaw; (repeat' split) <;> first | rfl | contradiction | omega) rfl)
      · skip
        refine jr_iload F dX8_leastOf_57 rfl ?_
        refine jr_iload_n F dX8_leastOf_59 rfl ?_
        refine jr_icmp_ge (tgt := 68) F dX8_leastOf_60 (by decide) (fun c60 => ?_) (fun c60 => ?_) (by omega) (by omega)
        · skip
          refine jr_iload_n F dX8_leastOf_68 rfl ?_
          exact jr_iret F dX8_leastOf_69 (pI_of (by unfold leaw; (repeat' split) <;> first | rfl | contradiction | omega) rfl)
        · skip
          refine jr_iload F dX8_leastOf_63 rfl ?_
          refine jr_goto (tgt := 69) F dX8_leastOf_65 (by decide) ?_
          exact jr_iret F dX8_leastOf_69 (pI_of (by unfold leaw; (repeat' split) <;> first | rfl | contradiction | omega) rfl)
    · skip
      refine jr_iconst F dX8_leastOf_41 ?_
      refine jr_goto (tgt := 69) F dX8_leastOf_42 (by decide) ?_
      exact jr_iret F dX8_leastOf_69 (pI_of (by unfold leaw; (repeat' split) <;> first | rfl | contradiction | omega) rfl)
  · skip
    refine jr_iconst F dX8_leastOf_27 ?_
    refine jr_goto (tgt := 69) F dX8_leastOf_28 (by decide) ?_
    exact jr_iret F dX8_leastOf_69 (pI_of (by unfold leaw; (repeat' split) <;> first | rfl | contradiction | omega) rfl)

set_option maxRecDepth 100000 in
set_option maxHeartbeats 4000000 in
theorem c_X8_mostOf {B : Bs} {w m : Wd} {r c : Int} (hM : RM w m) (hs : smR w r) (hc : 0 ≤ c ∧ c ≤ 1) : Sp (GM B) 1 yX8_mostOf cX8_mostOf 5 (Option.some FieldType.int) [.ref (ga (GM B) (0)), iv (r), iv (c)] m (pI m (mosw w r c)) := by
  refine Sp.of (by decide) (Nat.le_of_ble_eq_true rfl) (fun X F => ?_)
  obtain ⟨s0, s1, sf⟩ := id hs
  have f1 := sf 1 (by omega) (by omega)
  have f2 := sf 2 (by omega) (by omega)
  have f3 := sf 3 (by omega) (by omega)
  have oo : -61 ≤ othw w r c ∧ othw w r c ≤ 61 := by unfold othw; split <;> omega
  show Jw (GM B) X _ 0 [some (.ref (ga (GM B) (0))), some (iv (r)), some (iv (c))] [] m
  refine jr_aload_n F dX8_mostOf_0 rfl ?_
  refine jr_getR (t := 3) F dX8_mostOf_1 fg_X8_16 (Nat.le_of_ble_eq_true rfl) rfl rfl ?_
  refine jr_iload_n F dX8_mostOf_4 rfl ?_
  refine jr_iald F dX8_mostOf_5 (Nat.le_of_ble_eq_true rfl) rfl (by omega) (fun q5 => ?_) (by omega) (by omega)
  have v5 : m 3 (r) = (fa w r 2) := (rmf2 hM (r := r) (by omega) (by omega))
  rw [v5] at q5
  refine jr_ti v5 ?_
  refine jr_iload_n F dX8_mostOf_6 rfl ?_
  refine jr_isub F dX8_mostOf_7 ?_
  refine jr_istore_n F dX8_mostOf_8 (Nat.le_of_ble_eq_true rfl) rfl ?_
  refine jr_aload_n F dX8_mostOf_9 rfl ?_
  refine jr_iload_n F dX8_mostOf_10 rfl ?_
  refine jr_iload_n F dX8_mostOf_11 rfl ?_
  refine jr_vI F dX8_mostOf_12 cv_X8_110 (c_X8_otherLength hM (by assumption) (by omega)) (Nat.le_of_ble_eq_true rfl) rfl rfl rfl rfl (Nat.le_of_ble_eq_true rfl) (Nat.le_of_ble_eq_true rfl) rfl (Nat.le_of_ble_eq_true rfl) ?_
  refine jr_istore F dX8_mostOf_15 (Nat.le_of_ble_eq_true rfl) rfl ?_
  refine jr_aload_n F dX8_mostOf_17 rfl ?_
  refine jr_getR (t := 2) F dX8_mostOf_18 fg_X8_13 (Nat.le_of_ble_eq_true rfl) rfl rfl ?_
  refine jr_iload_n F dX8_mostOf_21 rfl ?_
  refine jr_iald F dX8_mostOf_22 (Nat.le_of_ble_eq_true rfl) rfl (by omega) (fun q22 => ?_) (by omega) (by omega)
  have v22 : m 2 (r) = (fa w r 1) := (rmf1 hM (r := r) (by omega) (by omega))
  rw [v22] at q22
  refine jr_ti v22 ?_
  refine jr_iconst F dX8_mostOf_23 ?_
  refine jr_icmp_ne (tgt := 32) F dX8_mostOf_24 (by decide) (fun c24 => ?_) (fun c24 => ?_) (by omega) (by omega)
  · skip
    refine jr_aload_n F dX8_mostOf_32 rfl ?_
    refine jr_getR (t := 2) F dX8_mostOf_33 fg_X8_13 (Nat.le_of_ble_eq_true rfl) rfl rfl ?_
    refine jr_iload_n F dX8_mostOf_36 rfl ?_
    refine jr_iald F dX8_mostOf_37 (Nat.le_of_ble_eq_true rfl) rfl (by omega) (fun q37 => ?_) (by omega) (by omega)
    have v37 : m 2 (r) = (fa w r 1) := (rmf1 hM (r := r) (by omega) (by omega))
    rw [v37] at q37
    refine jr_ti v37 ?_
    refine jr_sI F dX8_mostOf_38 cs_X8_100 (c_X8_isMisread (by omega)) rfl (Nat.le_of_ble_eq_true rfl) (Nat.le_of_ble_eq_true rfl) rfl (Nat.le_of_ble_eq_true rfl) ?_
    refine jr_ifeq_b (tgt := 55) F dX8_mostOf_41 (by decide) (fun c41 => ?_) (fun c41 => ?_)
    · skip
      refine jr_iload_n F dX8_mostOf_55 rfl ?_
      exact jr_iret F dX8_mostOf_56 (pI_of (by unfold mosw; (repeat' split) <;> first | rfl | contradiction | omega) rfl)
    · skip
      refine jr_iload F dX8_mostOf_44 rfl ?_
      refine jr_iload_n F dX8_mostOf_46 rfl ?_
      refine jr_icmp_le (tgt := 55) F dX8_mostOf_47 (by decide) (fun c47 => ?_) (fun c47 => ?_) (by omega) (by omega)
      · skip
        refine jr_iload_n F dX8_mostOf_55 rfl ?_
        exact jr_iret F dX8_mostOf_56 (pI_of (by unfold mosw; (repeat' split) <;> first | rfl | contradiction | omega) rfl)
      · skip
        refine jr_iload F dX8_mostOf_50 rfl ?_
        refine jr_goto (tgt := 56) F dX8_mostOf_52 (by decide) ?_
        exact jr_iret F dX8_mostOf_56 (pI_of (by unfold mosw; (repeat' split) <;> first | rfl | contradiction | omega) rfl)
  · skip
    refine jr_bipush F dX8_mostOf_27 (by decide) ?_
    refine jr_goto (tgt := 56) F dX8_mostOf_29 (by decide) ?_
    exact jr_iret F dX8_mostOf_56 (pI_of (by unfold mosw; (repeat' split) <;> first | rfl | contradiction | omega) rfl)

set_option maxRecDepth 100000 in
set_option maxHeartbeats 4000000 in
theorem c_X8_lengthsOf {B : Bs} {w m : Wd} {r c : Int} (hM : RM w m) (hs : smR w r) (hc : 0 ≤ c ∧ c ≤ 1) (h1 : 1 ≤ fa w r 2) : Sp (GM B) 2 yX8_lengthsOf cX8_lengthsOf 4 (Option.some FieldType.int) [.ref (ga (GM B) (0)), iv (r), iv (c)] m (pI m (lenw w r c)) := by
  refine Sp.of (by decide) (Nat.le_of_ble_eq_true rfl) (fun X F => ?_)
  obtain ⟨s0, s1, sf⟩ := id hs
  have f1 := sf 1 (by omega) (by omega)
  have f2 := sf 2 (by omega) (by omega)
  have f3 := sf 3 (by omega) (by omega)
  have l1 := lea_R hs (c := c) hc
  have l2 := mos_R hs (c := c) hc
  have l3 := leamos h1 hc
  show Jw (GM B) X _ 0 [some (.ref (ga (GM B) (0))), some (iv (r)), some (iv (c))] [] m
  refine jr_aload_n F dX8_lengthsOf_0 rfl ?_
  refine jr_iload_n F dX8_lengthsOf_1 rfl ?_
  refine jr_iload_n F dX8_lengthsOf_2 rfl ?_
  refine jr_vI F dX8_lengthsOf_3 cv_X8_113 (c_X8_mostOf hM (by assumption) (by omega)) (Nat.le_of_ble_eq_true rfl) rfl rfl rfl rfl (Nat.le_of_ble_eq_true rfl) (Nat.le_of_ble_eq_true rfl) rfl (Nat.le_of_ble_eq_true rfl) ?_
  refine jr_aload_n F dX8_lengthsOf_6 rfl ?_
  refine jr_iload_n F dX8_lengthsOf_7 rfl ?_
  refine jr_iload_n F dX8_lengthsOf_8 rfl ?_
  refine jr_vI F dX8_lengthsOf_9 cv_X8_116 (c_X8_leastOf hM (by assumption) (by omega)) (Nat.le_of_ble_eq_true rfl) rfl rfl rfl rfl (Nat.le_of_ble_eq_true rfl) (Nat.le_of_ble_eq_true rfl) rfl (Nat.le_of_ble_eq_true rfl) ?_
  refine jr_isub F dX8_lengthsOf_12 ?_
  refine jr_istore_n F dX8_lengthsOf_13 (Nat.le_of_ble_eq_true rfl) rfl ?_
  refine jr_aload_n F dX8_lengthsOf_14 rfl ?_
  refine jr_getR (t := 2) F dX8_lengthsOf_15 fg_X8_13 (Nat.le_of_ble_eq_true rfl) rfl rfl ?_
  refine jr_iload_n F dX8_lengthsOf_18 rfl ?_
  refine jr_iald F dX8_lengthsOf_19 (Nat.le_of_ble_eq_true rfl) rfl (by omega) (fun q19 => ?_) (by omega) (by omega)
  have v19 : m 2 (r) = (fa w r 1) := (rmf1 hM (r := r) (by omega) (by omega))
  rw [v19] at q19
  refine jr_ti v19 ?_
  refine jr_sI F dX8_lengthsOf_20 cs_X8_100 (c_X8_isMisread (by omega)) rfl (Nat.le_of_ble_eq_true rfl) (Nat.le_of_ble_eq_true rfl) rfl (Nat.le_of_ble_eq_true rfl) ?_
  refine jr_ifeq_b (tgt := 38) F dX8_lengthsOf_23 (by decide) (fun c23 => ?_) (fun c23 => ?_)
  · skip
    refine jr_iload_n F dX8_lengthsOf_38 rfl ?_
    refine jr_iconst F dX8_lengthsOf_39 ?_
    refine jr_iadd F dX8_lengthsOf_40 ?_
    exact jr_iret F dX8_lengthsOf_41 (pI_of (by unfold lenw; first | (rw [if_pos (by assumption)]; omega) | (rw [if_neg (by assumption)]; done)) rfl)
  · skip
    refine jr_iload_n F dX8_lengthsOf_26 rfl ?_
    refine jr_if_le (tgt := 34) F dX8_lengthsOf_27 (by decide) (fun c27 => ?_) (fun c27 => ?_) (by omega)
    · skip
      refine jr_iconst F dX8_lengthsOf_34 ?_
      refine jr_goto (tgt := 41) F dX8_lengthsOf_35 (by decide) ?_
      exact jr_iret F dX8_lengthsOf_41 (pI_of (by unfold lenw; first | (rw [if_pos (by assumption)]; omega) | (rw [if_neg (by assumption)]; done)) rfl)
    · skip
      refine jr_iconst F dX8_lengthsOf_30 ?_
      refine jr_goto (tgt := 41) F dX8_lengthsOf_31 (by decide) ?_
      exact jr_iret F dX8_lengthsOf_41 (pI_of (by unfold lenw; first | (rw [if_pos (by assumption)]; omega) | (rw [if_neg (by assumption)]; done)) rfl)

set_option maxRecDepth 100000 in
set_option maxHeartbeats 4000000 in
theorem c_X8_lasts {B : Bs} {w m : Wd} {r c k : Int} (hM : RM w m) (hR : RI w) (hr : inR r) (hc : inR c) (hk : inR k) : Sp (GM B) 3 yX8_lasts cX8_lasts 4 (Option.some FieldType.int) [.ref (ga (GM B) (0)), iv (r), iv (c), iv (k)] m (pI m (lasw w r c k)) := by
  refine Sp.of (by decide) (Nat.le_of_ble_eq_true rfl) (fun X F => ?_)
  have h3 := hR.1
  show Jw (GM B) X _ 0 [some (.ref (ga (GM B) (0))), some (iv (r)), some (iv (c)), some (iv (k))] [] m
  refine jr_aload_n F dX8_lasts_0 rfl ?_
  refine jr_iload_n F dX8_lasts_1 rfl ?_
  refine jr_vI F dX8_lasts_2 cv_X8_103 (c_X8_isReign hM h3 (by omega)) (Nat.le_of_ble_eq_true rfl) rfl rfl rfl rfl (Nat.le_of_ble_eq_true rfl) (Nat.le_of_ble_eq_true rfl) rfl (Nat.le_of_ble_eq_true rfl) ?_
  refine jr_ifne_b (tgt := 11) F dX8_lasts_5 (by decide) (fun c5 => ?_) (fun c5 => ?_)
  · skip
    refine jr_iload_n F dX8_lasts_11 rfl ?_
    refine jr_iconst F dX8_lasts_12 ?_
    refine jr_iconst F dX8_lasts_13 ?_
    refine jr_sI F dX8_lasts_14 cs_X8_88 (c_X8_lies (by omega) (by omega) (by omega)) rfl (Nat.le_of_ble_eq_true rfl) (Nat.le_of_ble_eq_true rfl) rfl (Nat.le_of_ble_eq_true rfl) ?_
    refine jr_ifeq_b (tgt := 29) F dX8_lasts_17 (by decide) (fun c17 => ?_) (fun c17 => ?_)
    · skip
      refine jr_bipush F dX8_lasts_29 (by decide) ?_
      exact jr_iret F dX8_lasts_31 (pI_of (by unfold lasw; (repeat' split) <;> first | rfl | omega) rfl)
    · skip
      refine jr_iload_n F dX8_lasts_20 rfl ?_
      refine jr_iconst F dX8_lasts_21 ?_
      refine jr_iconst F dX8_lasts_22 ?_
      refine jr_sI F dX8_lasts_23 cs_X8_88 (c_X8_lies (by omega) (by omega) (by omega)) rfl (Nat.le_of_ble_eq_true rfl) (Nat.le_of_ble_eq_true rfl) rfl (Nat.le_of_ble_eq_true rfl) ?_
      refine jr_ifne_b (tgt := 32) F dX8_lasts_26 (by decide) (fun c26 => ?_) (fun c26 => ?_)
      · skip
        have rr := hR.2 r (by omega) (by omega)
        have sm := rr.1
        refine jr_iload_n F dX8_lasts_32 rfl ?_
        refine jr_if_ne (tgt := 45) F dX8_lasts_33 (by decide) (fun c33 => ?_) (fun c33 => ?_) (by omega)
        · skip
          refine jr_iload_n F dX8_lasts_45 rfl ?_
          refine jr_iconst F dX8_lasts_46 ?_
          refine jr_icmp_ne (tgt := 59) F dX8_lasts_47 (by decide) (fun c47 => ?_) (fun c47 => ?_) (by omega) (by omega)
          · skip
            refine jr_aload_n F dX8_lasts_59 rfl ?_
            refine jr_iload_n F dX8_lasts_60 rfl ?_
            refine jr_iload_n F dX8_lasts_61 rfl ?_
            refine jr_vI F dX8_lasts_62 cv_X8_119 (c_X8_lengthsOf hM (by assumption) (by omega) (by omega)) (Nat.le_of_ble_eq_true rfl) rfl rfl rfl rfl (Nat.le_of_ble_eq_true rfl) (Nat.le_of_ble_eq_true rfl) rfl (Nat.le_of_ble_eq_true rfl) ?_
            exact jr_iret F dX8_lasts_65 (pI_of (by unfold lasw; (repeat' split) <;> first | rfl | omega) rfl)
          · skip
            refine jr_aload_n F dX8_lasts_50 rfl ?_
            refine jr_iload_n F dX8_lasts_51 rfl ?_
            refine jr_iload_n F dX8_lasts_52 rfl ?_
            refine jr_vI F dX8_lasts_53 cv_X8_113 (c_X8_mostOf hM (by assumption) (by omega)) (Nat.le_of_ble_eq_true rfl) rfl rfl rfl rfl (Nat.le_of_ble_eq_true rfl) (Nat.le_of_ble_eq_true rfl) rfl (Nat.le_of_ble_eq_true rfl) ?_
            refine jr_goto (tgt := 65) F dX8_lasts_56 (by decide) ?_
            exact jr_iret F dX8_lasts_65 (pI_of (by unfold lasw; (repeat' split) <;> first | rfl | omega) rfl)
        · skip
          refine jr_aload_n F dX8_lasts_36 rfl ?_
          refine jr_iload_n F dX8_lasts_37 rfl ?_
          refine jr_iload_n F dX8_lasts_38 rfl ?_
          refine jr_vI F dX8_lasts_39 cv_X8_116 (c_X8_leastOf hM (by assumption) (by omega)) (Nat.le_of_ble_eq_true rfl) rfl rfl rfl rfl (Nat.le_of_ble_eq_true rfl) (Nat.le_of_ble_eq_true rfl) rfl (Nat.le_of_ble_eq_true rfl) ?_
          refine jr_goto (tgt := 65) F dX8_lasts_42 (by decide) ?_
          exact jr_iret F dX8_lasts_65 (pI_of (by unfold lasw; (repeat' split) <;> first | rfl | omega) rfl)
      · skip
        refine jr_bipush F dX8_lasts_29 (by decide) ?_
        exact jr_iret F dX8_lasts_31 (pI_of (by unfold lasw; (repeat' split) <;> first | rfl | omega) rfl)
  · skip
    refine jr_bipush F dX8_lasts_8 (by decide) ?_
    exact jr_iret F dX8_lasts_10 (pI_of (by unfold lasw; (repeat' split) <;> first | rfl | omega) rfl)

set_option maxRecDepth 100000 in
set_option maxHeartbeats 4000000 in
theorem c_X8_number {B : Bs} {w m : Wd} {r n : Int} (hM : RM w m) (hR : RI w) (hr : inR r) (hn : inR n) : Sp (GM B) 2 yX8_number cX8_number 4 (Option.some FieldType.int) [.ref (ga (GM B) (0)), iv (r), iv (n)] m (pI (accW (numw w r n) (up m 3 r n) m) (numw w r n)) := by
  refine Sp.of (by decide) (Nat.le_of_ble_eq_true rfl) (fun X F => ?_)
  have h3 := hR.1
  show Jw (GM B) X _ 0 [some (.ref (ga (GM B) (0))), some (iv (r)), some (iv (n))] [] m
  refine jr_aload_n F dX8_number_0 rfl ?_
  refine jr_iload_n F dX8_number_1 rfl ?_
  refine jr_vI F dX8_number_2 cv_X8_103 (c_X8_isReign hM h3 (by omega)) (Nat.le_of_ble_eq_true rfl) rfl rfl rfl rfl (Nat.le_of_ble_eq_true rfl) (Nat.le_of_ble_eq_true rfl) rfl (Nat.le_of_ble_eq_true rfl) ?_
  refine jr_ifne_b (tgt := 11) F dX8_number_5 (by decide) (fun c5 => ?_) (fun c5 => ?_)
  · skip
    have rr := hR.2 r (by omega) (by omega)
    refine jr_iload_n F dX8_number_11 rfl ?_
    refine jr_iconst F dX8_number_12 ?_
    refine jr_bipush F dX8_number_13 (by decide) ?_
    refine jr_sI F dX8_number_15 cs_X8_88 (c_X8_lies (by omega) (by omega) (by omega)) rfl (Nat.le_of_ble_eq_true rfl) (Nat.le_of_ble_eq_true rfl) rfl (Nat.le_of_ble_eq_true rfl) ?_
    refine jr_ifeq_b (tgt := 41) F dX8_number_18 (by decide) (fun c18 => ?_) (fun c18 => ?_)
    · skip
      refine jr_bipush F dX8_number_41 (by decide) ?_
      first | exact jr_iret F dX8_number_43 (pA_n (by unfold numw lapw; (repeat' split) <;> omega) (by omega) rfl) | exact jr_iret F dX8_number_43 (pA_y (by unfold numw lapw; (repeat' split) <;> omega) (by omega) rfl)
    · skip
      refine jr_aload_n F dX8_number_21 rfl ?_
      refine jr_getR (t := 2) F dX8_number_22 fg_X8_13 (Nat.le_of_ble_eq_true rfl) rfl rfl ?_
      refine jr_iload_n F dX8_number_25 rfl ?_
      refine jr_iald F dX8_number_26 (Nat.le_of_ble_eq_true rfl) rfl (by omega) (fun q26 => ?_) (by omega) (by omega)
      have v26 : m 2 (r) = (fa w r 1) := (rmf1 hM (r := r) (by omega) (by omega))
      rw [v26] at q26
      refine jr_ti v26 ?_
      refine jr_iconst F dX8_number_27 ?_
      refine jr_icmp_ne (tgt := 44) F dX8_number_28 (by decide) (fun c28 => ?_) (fun c28 => ?_) (by omega) (by omega)
      · skip
        refine jr_aload_n F dX8_number_44 rfl ?_
        refine jr_getR (t := 3) F dX8_number_45 fg_X8_16 (Nat.le_of_ble_eq_true rfl) rfl rfl ?_
        refine jr_iload_n F dX8_number_48 rfl ?_
        refine jr_iald F dX8_number_49 (Nat.le_of_ble_eq_true rfl) rfl (by omega) (fun q49 => ?_) (by omega) (by omega)
        have v49 : m 3 (r) = (fa w r 2) := (rmf2 hM (r := r) (by omega) (by omega))
        rw [v49] at q49
        refine jr_ti v49 ?_
        refine jr_istore_n F dX8_number_50 (Nat.le_of_ble_eq_true rfl) rfl ?_
        refine jr_aload_n F dX8_number_51 rfl ?_
        refine jr_getR (t := 3) F dX8_number_52 fg_X8_16 (Nat.le_of_ble_eq_true rfl) rfl rfl ?_
        refine jr_iload_n F dX8_number_55 rfl ?_
        refine jr_iload_n F dX8_number_56 rfl ?_
        refine jr_iastx F dX8_number_57 (Nat.le_of_ble_eq_true rfl) rfl (by omega) (fun w57 e57 => ?_) (by omega) (by omega) (by omega)
        refine jr_iload_n F dX8_number_58 rfl ?_
        first | exact jr_iret F dX8_number_59 (pA_n (by unfold numw lapw; (repeat' split) <;> omega) (by omega) (by subst e57; first | rfl | omega)) | exact jr_iret F dX8_number_59 (pA_y (by unfold numw lapw; (repeat' split) <;> omega) (by omega) (by subst e57; first | rfl | omega))
      · skip
        refine jr_iload_n F dX8_number_31 rfl ?_
        refine jr_aload_n F dX8_number_32 rfl ?_
        refine jr_getR (t := 4) F dX8_number_33 fg_X8_19 (Nat.le_of_ble_eq_true rfl) rfl rfl ?_
        refine jr_iload_n F dX8_number_36 rfl ?_
        refine jr_iald F dX8_number_37 (Nat.le_of_ble_eq_true rfl) rfl (by omega) (fun q37 => ?_) (by omega) (by omega)
        have v37 : m 4 (r) = (fa w r 3) := (rmf3 hM (r := r) (by omega) (by omega))
        rw [v37] at q37
        refine jr_ti v37 ?_
        refine jr_icmp_ge (tgt := 44) F dX8_number_38 (by decide) (fun c38 => ?_) (fun c38 => ?_) (by omega) (by omega)
        · skip
          refine jr_aload_n F dX8_number_44 rfl ?_
          refine jr_getR (t := 3) F dX8_number_45 fg_X8_16 (Nat.le_of_ble_eq_true rfl) rfl rfl ?_
          refine jr_iload_n F dX8_number_48 rfl ?_
          refine jr_iald F dX8_number_49 (Nat.le_of_ble_eq_true rfl) rfl (by omega) (fun q49 => ?_) (by omega) (by omega)
          have v49 : m 3 (r) = (fa w r 2) := (rmf2 hM (r := r) (by omega) (by omega))
          rw [v49] at q49
          refine jr_ti v49 ?_
          refine jr_istore_n F dX8_number_50 (Nat.le_of_ble_eq_true rfl) rfl ?_
          refine jr_aload_n F dX8_number_51 rfl ?_
          refine jr_getR (t := 3) F dX8_number_52 fg_X8_16 (Nat.le_of_ble_eq_true rfl) rfl rfl ?_
          refine jr_iload_n F dX8_number_55 rfl ?_
          refine jr_iload_n F dX8_number_56 rfl ?_
          refine jr_iastx F dX8_number_57 (Nat.le_of_ble_eq_true rfl) rfl (by omega) (fun w57_1 e57_1 => ?_) (by omega) (by omega) (by omega)
          refine jr_iload_n F dX8_number_58 rfl ?_
          first | exact jr_iret F dX8_number_59 (pA_n (by unfold numw lapw; (repeat' split) <;> omega) (by omega) (by subst e57_1; first | rfl | omega)) | exact jr_iret F dX8_number_59 (pA_y (by unfold numw lapw; (repeat' split) <;> omega) (by omega) (by subst e57_1; first | rfl | omega))
        · skip
          refine jr_bipush F dX8_number_41 (by decide) ?_
          first | exact jr_iret F dX8_number_43 (pA_n (by unfold numw lapw; (repeat' split) <;> omega) (by omega) rfl) | exact jr_iret F dX8_number_43 (pA_y (by unfold numw lapw; (repeat' split) <;> omega) (by omega) rfl)
  · skip
    refine jr_bipush F dX8_number_8 (by decide) ?_
    first | exact jr_iret F dX8_number_10 (pA_n (by unfold numw lapw; (repeat' split) <;> omega) (by omega) rfl) | exact jr_iret F dX8_number_10 (pA_y (by unfold numw lapw; (repeat' split) <;> omega) (by omega) rfl)

def addRm (w m : Wd) (l k n o e : Int) : Wd := up (up (up (up (up (up (up m 1 (w 1 3) l) 2 (w 1 3) k) 3 (w 1 3) n) 4 (w 1 3) o) 5 (w 1 3) e) 6 (w 1 3) (w 4 l)) 0 0 (w 1 3 + 1)
def addTm (w m : Wd) (s a x b y l e : Int) : Wd := up (up (up (up (up (up (up (up m 8 (7 * w 5 3) s) 8 (7 * w 5 3 + 1) a) 8 (7 * w 5 3 + 2) x) 8 (7 * w 5 3 + 3) b) 8 (7 * w 5 3 + 4) y) 8 (7 * w 5 3 + 5) l) 8 (7 * w 5 3 + 6) e) 0 8 (w 5 3 + 1)
def addWm (w m : Wd) (a x b y l : Int) : Wd := up (up (up (up (up (up m 14 (5 * w 8 3) a) 14 (5 * w 8 3 + 1) x) 14 (5 * w 8 3 + 2) b) 14 (5 * w 8 3 + 3) y) 14 (5 * w 8 3 + 4) l) 0 16 (w 8 3 + 1)
def comw (w : Wd) : Int := if w 5 3 < 8 then w 5 3 else -104

set_option maxRecDepth 100000 in
set_option maxHeartbeats 4000000 in
theorem c_X8_reign {B : Bs} {w m : Wd} {l k n o e : Int} (hM : RM w m) (h3 : 0 ≤ w 1 3 ∧ w 1 3 ≤ 10) (h4 : w 1 4 = cnq (fun r => isMis (fa w r 1)) (w 1 3).toNat) (hc : w 1 4 ≤ 3) (h5 : ∀ j : Int, 0 ≤ j → j < 5 → w 4 j = lsr w j (w 1 3).toNat) (hl : inR l) (hk : inR k) (hn : inR n) (ho : inR o) (he : inR e) : Sp (GM B) 2 yX8_reign cX8_reign 9 (Option.some FieldType.int) [.ref (ga (GM B) (0)), iv (l), iv (k), iv (n), iv (o), iv (e)] m (pI (accW (reiw w l k n o e) (addRm w m l k n o e) m) (reiw w l k n o e)) := by
  refine Sp.of (by decide) (Nat.le_of_ble_eq_true rfl) (fun X F => ?_)
  show Jw (GM B) X _ 0 [some (.ref (ga (GM B) (0))), some (iv (l)), some (iv (k)), some (iv (n)), some (iv (o)), some (iv (e))] [] m
  have J102 : ((0 ≤ l ∧ l ≤ 4) ∧ (0 ≤ k ∧ k ≤ 6) ∧ (1 ≤ n ∧ n ≤ 60) ∧ (0 ≤ o ∧ (k = 1 → o ≤ n) ∧ o ≤ 60) ∧ 0 ≤ e ∧ e ≤ 9) → (¬ (¬ w 4 l = -1 ∧ ¬ knw w (w 4 l) e)) → (¬ (k = 1 ∧ w 4 l = -1)) → Jw (GM B) X (pI (accW (reiw w l k n o e) (addRm w m l k n o e) m) (reiw w l k n o e)) 102 [some (.ref (ga (GM B) 0)), some (iv l), some (iv k), some (iv n), some (iv o), some (iv e), some (iv (w 4 l))] [] m := by
    intro  hA hB hC
    have w4 := h5 l (by omega) (by omega)
    have wR := lsr_R w l (w 1 3).toNat
    refine jr_iconst F dX8_reign_102 ?_
    refine jr_istore F dX8_reign_103 (Nat.le_of_ble_eq_true rfl) rfl ?_
    refine jr_iconst F dX8_reign_105 ?_
    refine jr_istore F dX8_reign_106 (Nat.le_of_ble_eq_true rfl) rfl ?_
    have L108 : ∀ (fuel : Nat) (i : Int) (z : Int), (w 1 3 - i).toNat < fuel → (0 ≤ i) → (i ≤ w 1 3) → (z = cnq (fun r => isMis (fa w r 1)) i.toNat) → Jw (GM B) X (pI (accW (reiw w l k n o e) (addRm w m l k n o e) m) (reiw w l k n o e)) 108 [some (.ref (ga (GM B) 0)), some (iv l), some (iv k), some (iv n), some (iv o), some (iv e), some (iv (w 4 l)), some (iv z), some (iv i)] [] m := by
      intro fuel
      induction fuel with
      | zero => intro i z hfuel; exact absurd hfuel (Nat.not_lt_zero _)
      | succ fuel ih108 =>
          intro i z hfuel i0 i1 hz
          have zR := cnq_R2 (P := fun r => isMis (fa w r 1)) i0 i1
          refine jr_iload F dX8_reign_108 rfl ?_
          refine jr_aload_n F dX8_reign_110 rfl ?_
          refine jr_getIx F (w 1 3) dX8_reign_111 fg_X8_84 (Nat.le_of_ble_eq_true rfl) rfl rfl ((show m 0 0 = (w 1 3) from rn0 hM)) (fun q111 => ?_)
          refine jr_icmp_ge (tgt := 146) F dX8_reign_114 (by decide) (fun c114 => ?_) (fun c114 => ?_) (by omega) (by omega)
          · skip
            obtain rfl : i = w 1 3 := by omega
            rw [← h4] at hz
            refine jr_aload_n F dX8_reign_146 rfl ?_
            refine jr_getIx F (w 1 3) dX8_reign_147 fg_X8_84 (Nat.le_of_ble_eq_true rfl) rfl rfl ((show m 0 0 = (w 1 3) from rn0 hM)) (fun q147 => ?_)
            refine jr_bipush F dX8_reign_150 (by decide) ?_
            refine jr_icmp_eq (tgt := 168) F dX8_reign_152 (by decide) (fun c152 => ?_) (fun c152 => ?_) (by omega) (by omega)
            · skip
              have hD : ¬ (w 1 3 < 10 ∧ ¬ (isMis k ∧ 3 ≤ w 1 4)) := fun q => by first | (have := q.1; omega) | exact q.2 ⟨c159, by omega⟩
              refine jr_bipush F dX8_reign_168 (by decide) ?_
              exact jr_iret F dX8_reign_170 (pA_n (by unfold reiw; rw [if_pos (by omega), if_neg hB, if_neg hC, if_neg hD]) (by omega) rfl)
            · skip
              refine jr_iload_n F dX8_reign_155 rfl ?_
              refine jr_sI F dX8_reign_156 cs_X8_100 (c_X8_isMisread (by omega)) rfl (Nat.le_of_ble_eq_true rfl) (Nat.le_of_ble_eq_true rfl) rfl (Nat.le_of_ble_eq_true rfl) ?_
              refine jr_ifeq_b (tgt := 171) F dX8_reign_159 (by decide) (fun c159 => ?_) (fun c159 => ?_)
              · skip
                have hD : w 1 3 < 10 ∧ ¬ (isMis k ∧ 3 ≤ w 1 4) := ⟨by omega, fun q => by first | exact absurd q.1 c159 | (have := q.2; omega)⟩
                refine jr_aload_n F dX8_reign_171 rfl ?_
                refine jr_getR (t := 1) F dX8_reign_172 fg_X8_7 (Nat.le_of_ble_eq_true rfl) rfl rfl ?_
                refine jr_aload_n F dX8_reign_175 rfl ?_
                refine jr_getIx F (w 1 3) dX8_reign_176 fg_X8_84 (Nat.le_of_ble_eq_true rfl) rfl rfl (by exact (show m 0 0 = w 1 3 from rn0 hM)) (fun q176 => ?_)
                refine jr_iload_n F dX8_reign_179 rfl ?_
                refine jr_iastx F dX8_reign_180 (Nat.le_of_ble_eq_true rfl) rfl (by omega) (fun w180 e180 => ?_) (by omega) (by omega) (by omega)
                refine jr_aload_n F dX8_reign_181 rfl ?_
                refine jr_getR (t := 2) F dX8_reign_182 fg_X8_13 (Nat.le_of_ble_eq_true rfl) rfl rfl ?_
                refine jr_aload_n F dX8_reign_185 rfl ?_
                refine jr_getIx F (w 1 3) dX8_reign_186 fg_X8_84 (Nat.le_of_ble_eq_true rfl) rfl rfl (by subst e180; exact (show m 0 0 = w 1 3 from rn0 hM)) (fun q186 => ?_)
                refine jr_iload_n F dX8_reign_189 rfl ?_
                refine jr_iastx F dX8_reign_190 (Nat.le_of_ble_eq_true rfl) rfl (by omega) (fun w190 e190 => ?_) (by omega) (by omega) (by omega)
                refine jr_aload_n F dX8_reign_191 rfl ?_
                refine jr_getR (t := 3) F dX8_reign_192 fg_X8_16 (Nat.le_of_ble_eq_true rfl) rfl rfl ?_
                refine jr_aload_n F dX8_reign_195 rfl ?_
                refine jr_getIx F (w 1 3) dX8_reign_196 fg_X8_84 (Nat.le_of_ble_eq_true rfl) rfl rfl (by subst e190; subst e180; exact (show m 0 0 = w 1 3 from rn0 hM)) (fun q196 => ?_)
                refine jr_iload_n F dX8_reign_199 rfl ?_
                refine jr_iastx F dX8_reign_200 (Nat.le_of_ble_eq_true rfl) rfl (by omega) (fun w200 e200 => ?_) (by omega) (by omega) (by omega)
                refine jr_aload_n F dX8_reign_201 rfl ?_
                refine jr_getR (t := 4) F dX8_reign_202 fg_X8_19 (Nat.le_of_ble_eq_true rfl) rfl rfl ?_
                refine jr_aload_n F dX8_reign_205 rfl ?_
                refine jr_getIx F (w 1 3) dX8_reign_206 fg_X8_84 (Nat.le_of_ble_eq_true rfl) rfl rfl (by subst e200; subst e190; subst e180; exact (show m 0 0 = w 1 3 from rn0 hM)) (fun q206 => ?_)
                refine jr_iload F dX8_reign_209 rfl ?_
                refine jr_iastx F dX8_reign_211 (Nat.le_of_ble_eq_true rfl) rfl (by omega) (fun w211 e211 => ?_) (by omega) (by omega) (by omega)
                refine jr_aload_n F dX8_reign_212 rfl ?_
                refine jr_getR (t := 5) F dX8_reign_213 fg_X8_22 (Nat.le_of_ble_eq_true rfl) rfl rfl ?_
                refine jr_aload_n F dX8_reign_216 rfl ?_
                refine jr_getIx F (w 1 3) dX8_reign_217 fg_X8_84 (Nat.le_of_ble_eq_true rfl) rfl rfl (by subst e211; subst e200; subst e190; subst e180; exact (show m 0 0 = (w 1 3) from rn0 hM)) (fun q217 => ?_)
                refine jr_iload F dX8_reign_220 rfl ?_
                refine jr_iastx F dX8_reign_222 (Nat.le_of_ble_eq_true rfl) rfl (by omega) (fun w222 e222 => ?_) (by omega) (by omega) (by omega)
                refine jr_aload_n F dX8_reign_223 rfl ?_
                refine jr_getR (t := 6) F dX8_reign_224 fg_X8_25 (Nat.le_of_ble_eq_true rfl) rfl rfl ?_
                refine jr_aload_n F dX8_reign_227 rfl ?_
                refine jr_getIx F (w 1 3) dX8_reign_228 fg_X8_84 (Nat.le_of_ble_eq_true rfl) rfl rfl (by subst e222; subst e211; subst e200; subst e190; subst e180; exact (show m 0 0 = w 1 3 from rn0 hM)) (fun q228 => ?_)
                refine jr_iload F dX8_reign_231 rfl ?_
                refine jr_iastx F dX8_reign_233 (Nat.le_of_ble_eq_true rfl) rfl (by omega) (fun w233 e233 => ?_) (by omega) (by omega) (by omega)
                refine jr_aload_n F dX8_reign_234 rfl ?_
                refine jr_dup F dX8_reign_235 rfl ?_
                refine jr_getIx F (w 1 3) dX8_reign_236 fg_X8_84 (Nat.le_of_ble_eq_true rfl) rfl rfl (by subst e233; subst e222; subst e211; subst e200; subst e190; subst e180; exact (show m 0 0 = w 1 3 from rn0 hM)) (fun q236 => ?_)
                refine jr_iconst F dX8_reign_239 ?_
                refine jr_iadd F dX8_reign_240 ?_
                refine jr_putIx F dX8_reign_241 fp_X8_84 (Nat.le_of_ble_eq_true rfl) rfl rfl (by omega) (fun w241 e241 => ?_)
                refine jr_aload_n F dX8_reign_244 rfl ?_
                refine jr_getIx F (w 1 3 + 1) dX8_reign_245 fg_X8_84 (Nat.le_of_ble_eq_true rfl) rfl rfl (by subst e241; subst e233; subst e222; subst e211; subst e200; subst e190; subst e180; rfl) (fun q245 => ?_)
                refine jr_iconst F dX8_reign_248 ?_
                refine jr_isub F dX8_reign_249 ?_
                exact jr_iret F dX8_reign_250 (pA_y (by unfold reiw; rw [if_pos (by omega), if_neg hB, if_neg hC, if_pos hD]; omega) (by omega) (by subst e241; subst e233; subst e222; subst e211; subst e200; subst e190; subst e180; first | rfl | omega))
              · skip
                refine jr_iload F dX8_reign_162 rfl ?_
                refine jr_iconst F dX8_reign_164 ?_
                refine jr_icmp_ne (tgt := 171) F dX8_reign_165 (by decide) (fun c165 => ?_) (fun c165 => ?_) (by omega) (by omega)
                · skip
                  have hD : w 1 3 < 10 ∧ ¬ (isMis k ∧ 3 ≤ w 1 4) := ⟨by omega, fun q => by first | exact absurd q.1 c159 | (have := q.2; omega)⟩
                  refine jr_aload_n F dX8_reign_171 rfl ?_
                  refine jr_getR (t := 1) F dX8_reign_172 fg_X8_7 (Nat.le_of_ble_eq_true rfl) rfl rfl ?_
                  refine jr_aload_n F dX8_reign_175 rfl ?_
                  refine jr_getIx F (w 1 3) dX8_reign_176 fg_X8_84 (Nat.le_of_ble_eq_true rfl) rfl rfl (by exact (show m 0 0 = w 1 3 from rn0 hM)) (fun q176 => ?_)
                  refine jr_iload_n F dX8_reign_179 rfl ?_
                  refine jr_iastx F dX8_reign_180 (Nat.le_of_ble_eq_true rfl) rfl (by omega) (fun w180_1 e180_1 => ?_) (by omega) (by omega) (by omega)
                  refine jr_aload_n F dX8_reign_181 rfl ?_
                  refine jr_getR (t := 2) F dX8_reign_182 fg_X8_13 (Nat.le_of_ble_eq_true rfl) rfl rfl ?_
                  refine jr_aload_n F dX8_reign_185 rfl ?_
                  refine jr_getIx F (w 1 3) dX8_reign_186 fg_X8_84 (Nat.le_of_ble_eq_true rfl) rfl rfl (by subst e180_1; exact (show m 0 0 = w 1 3 from rn0 hM)) (fun q186 => ?_)
                  refine jr_iload_n F dX8_reign_189 rfl ?_
                  refine jr_iastx F dX8_reign_190 (Nat.le_of_ble_eq_true rfl) rfl (by omega) (fun w190_1 e190_1 => ?_) (by omega) (by omega) (by omega)
                  refine jr_aload_n F dX8_reign_191 rfl ?_
                  refine jr_getR (t := 3) F dX8_reign_192 fg_X8_16 (Nat.le_of_ble_eq_true rfl) rfl rfl ?_
                  refine jr_aload_n F dX8_reign_195 rfl ?_
                  refine jr_getIx F (w 1 3) dX8_reign_196 fg_X8_84 (Nat.le_of_ble_eq_true rfl) rfl rfl (by subst e190_1; subst e180_1; exact (show m 0 0 = w 1 3 from rn0 hM)) (fun q196 => ?_)
                  refine jr_iload_n F dX8_reign_199 rfl ?_
                  refine jr_iastx F dX8_reign_200 (Nat.le_of_ble_eq_true rfl) rfl (by omega) (fun w200_1 e200_1 => ?_) (by omega) (by omega) (by omega)
                  refine jr_aload_n F dX8_reign_201 rfl ?_
                  refine jr_getR (t := 4) F dX8_reign_202 fg_X8_19 (Nat.le_of_ble_eq_true rfl) rfl rfl ?_
                  refine jr_aload_n F dX8_reign_205 rfl ?_
                  refine jr_getIx F (w 1 3) dX8_reign_206 fg_X8_84 (Nat.le_of_ble_eq_true rfl) rfl rfl (by subst e200_1; subst e190_1; subst e180_1; exact (show m 0 0 = w 1 3 from rn0 hM)) (fun q206 => ?_)
                  refine jr_iload F dX8_reign_209 rfl ?_
                  refine jr_iastx F dX8_reign_211 (Nat.le_of_ble_eq_true rfl) rfl (by omega) (fun w211_1 e211_1 => ?_) (by omega) (by omega) (by omega)
                  refine jr_aload_n F dX8_reign_212 rfl ?_
                  refine jr_getR (t := 5) F dX8_reign_213 fg_X8_22 (Nat.le_of_ble_eq_true rfl) rfl rfl ?_
                  refine jr_aload_n F dX8_reign_216 rfl ?_
                  refine jr_getIx F (w 1 3) dX8_reign_217 fg_X8_84 (Nat.le_of_ble_eq_true rfl) rfl rfl (by subst e211_1; subst e200_1; subst e190_1; subst e180_1; exact (show m 0 0 = (w 1 3) from rn0 hM)) (fun q217 => ?_)
                  refine jr_iload F dX8_reign_220 rfl ?_
                  refine jr_iastx F dX8_reign_222 (Nat.le_of_ble_eq_true rfl) rfl (by omega) (fun w222_1 e222_1 => ?_) (by omega) (by omega) (by omega)
                  refine jr_aload_n F dX8_reign_223 rfl ?_
                  refine jr_getR (t := 6) F dX8_reign_224 fg_X8_25 (Nat.le_of_ble_eq_true rfl) rfl rfl ?_
                  refine jr_aload_n F dX8_reign_227 rfl ?_
                  refine jr_getIx F (w 1 3) dX8_reign_228 fg_X8_84 (Nat.le_of_ble_eq_true rfl) rfl rfl (by subst e222_1; subst e211_1; subst e200_1; subst e190_1; subst e180_1; exact (show m 0 0 = w 1 3 from rn0 hM)) (fun q228 => ?_)
                  refine jr_iload F dX8_reign_231 rfl ?_
                  refine jr_iastx F dX8_reign_233 (Nat.le_of_ble_eq_true rfl) rfl (by omega) (fun w233_1 e233_1 => ?_) (by omega) (by omega) (by omega)
                  refine jr_aload_n F dX8_reign_234 rfl ?_
                  refine jr_dup F dX8_reign_235 rfl ?_
                  refine jr_getIx F (w 1 3) dX8_reign_236 fg_X8_84 (Nat.le_of_ble_eq_true rfl) rfl rfl (by subst e233_1; subst e222_1; subst e211_1; subst e200_1; subst e190_1; subst e180_1; exact (show m 0 0 = w 1 3 from rn0 hM)) (fun q236 => ?_)
                  refine jr_iconst F dX8_reign_239 ?_
                  refine jr_iadd F dX8_reign_240 ?_
                  refine jr_putIx F dX8_reign_241 fp_X8_84 (Nat.le_of_ble_eq_true rfl) rfl rfl (by omega) (fun w241_1 e241_1 => ?_)
                  refine jr_aload_n F dX8_reign_244 rfl ?_
                  refine jr_getIx F (w 1 3 + 1) dX8_reign_245 fg_X8_84 (Nat.le_of_ble_eq_true rfl) rfl rfl (by subst e241_1; subst e233_1; subst e222_1; subst e211_1; subst e200_1; subst e190_1; subst e180_1; rfl) (fun q245 => ?_)
                  refine jr_iconst F dX8_reign_248 ?_
                  refine jr_isub F dX8_reign_249 ?_
                  exact jr_iret F dX8_reign_250 (pA_y (by unfold reiw; rw [if_pos (by omega), if_neg hB, if_neg hC, if_pos hD]; omega) (by omega) (by subst e241_1; subst e233_1; subst e222_1; subst e211_1; subst e200_1; subst e190_1; subst e180_1; first | rfl | omega))
                · skip
                  have hD : ¬ (w 1 3 < 10 ∧ ¬ (isMis k ∧ 3 ≤ w 1 4)) := fun q => by first | (have := q.1; omega) | exact q.2 ⟨c159, by omega⟩
                  refine jr_bipush F dX8_reign_168 (by decide) ?_
                  exact jr_iret F dX8_reign_170 (pA_n (by unfold reiw; rw [if_pos (by omega), if_neg hB, if_neg hC, if_neg hD]) (by omega) rfl)
          · skip
            refine jr_iload F dX8_reign_117 rfl ?_
            refine jr_aload_n F dX8_reign_119 rfl ?_
            refine jr_getR (t := 2) F dX8_reign_120 fg_X8_13 (Nat.le_of_ble_eq_true rfl) rfl rfl ?_
            refine jr_iload F dX8_reign_123 rfl ?_
            refine jr_iald F dX8_reign_125 (Nat.le_of_ble_eq_true rfl) rfl (by omega) (fun q125 => ?_) (by omega) (by omega)
            have v125 : m 2 (i) = (fa w i 1) := (rmf1 hM (r := i) (by omega) (by omega))
            rw [v125] at q125
            refine jr_ti v125 ?_
            refine jr_sI F dX8_reign_126 cs_X8_100 (c_X8_isMisread (by omega)) rfl (Nat.le_of_ble_eq_true rfl) (Nat.le_of_ble_eq_true rfl) rfl (Nat.le_of_ble_eq_true rfl) ?_
            refine jr_ifeq_b (tgt := 136) F dX8_reign_129 (by decide) (fun c129 => ?_) (fun c129 => ?_)
            · skip
              refine jr_iconst F dX8_reign_136 ?_
              refine jr_iadd F dX8_reign_137 ?_
              refine jr_istore F dX8_reign_138 (Nat.le_of_ble_eq_true rfl) rfl ?_
              refine jr_iinc F dX8_reign_140 rfl (Nat.le_of_ble_eq_true rfl) rfl ?_
              refine jr_goto (tgt := 108) F dX8_reign_143 (by decide) ?_
              exact jr_sub (ih108 (i + 1) _ (by omega) (by omega) (by omega) (by first | (rw [cnq_n i0 (by assumption), hz]; omega) | (rw [cnq_y i0 (by assumption), hz]))) ⟨rfl, rfl, rfl, rfl, rfl, rfl, rfl, rfl, rfl, trivial⟩
            · skip
              refine jr_iconst F dX8_reign_132 ?_
              refine jr_goto (tgt := 137) F dX8_reign_133 (by decide) ?_
              refine jr_iadd F dX8_reign_137 ?_
              refine jr_istore F dX8_reign_138 (Nat.le_of_ble_eq_true rfl) rfl ?_
              refine jr_iinc F dX8_reign_140 rfl (Nat.le_of_ble_eq_true rfl) rfl ?_
              refine jr_goto (tgt := 108) F dX8_reign_143 (by decide) ?_
              exact jr_sub (ih108 (i + 1) _ (by omega) (by omega) (by omega) (by first | (rw [cnq_n i0 (by assumption), hz]; omega) | (rw [cnq_y i0 (by assumption), hz]))) ⟨rfl, rfl, rfl, rfl, rfl, rfl, rfl, rfl, rfl, trivial⟩
    exact jr_sub (L108 _ 0 0 (Nat.lt_succ_self _) (by omega) (by omega) rfl) ⟨rfl, rfl, rfl, rfl, rfl, rfl, rfl, rfl, rfl, trivial⟩
  have J60 : ((0 ≤ l ∧ l ≤ 4) ∧ (0 ≤ k ∧ k ≤ 6) ∧ (1 ≤ n ∧ n ≤ 60) ∧ (0 ≤ o ∧ (k = 1 → o ≤ n) ∧ o ≤ 60) ∧ 0 ≤ e ∧ e ≤ 9) → Jw (GM B) X (pI (accW (reiw w l k n o e) (addRm w m l k n o e) m) (reiw w l k n o e)) 60 [some (.ref (ga (GM B) 0)), some (iv l), some (iv k), some (iv n), some (iv o), some (iv e)] [] m := by
    intro  hA
    have w4 := h5 l (by omega) (by omega)
    have wR := lsr_R w l (w 1 3).toNat
    refine jr_aload_n F dX8_reign_60 rfl ?_
    refine jr_iload_n F dX8_reign_61 rfl ?_
    refine jr_vI F dX8_reign_62 cv_X8_96 (c_X8_lastOf hM h3 (by omega)) (Nat.le_of_ble_eq_true rfl) rfl rfl rfl rfl (Nat.le_of_ble_eq_true rfl) (Nat.le_of_ble_eq_true rfl) rfl (Nat.le_of_ble_eq_true rfl) ?_
    refine jr_ti (b := (w 4 l)) w4.symm ?_
    refine jr_istore F dX8_reign_65 (Nat.le_of_ble_eq_true rfl) rfl ?_
    refine jr_iload F dX8_reign_67 rfl ?_
    refine jr_iconst F dX8_reign_69 ?_
    refine jr_icmp_eq (tgt := 88) F dX8_reign_70 (by decide) (fun c70 => ?_) (fun c70 => ?_) (by omega) (by omega)
    · skip
      refine jr_iload_n F dX8_reign_88 rfl ?_
      refine jr_iconst F dX8_reign_89 ?_
      refine jr_icmp_ne (tgt := 102) F dX8_reign_90 (by decide) (fun c90 => ?_) (fun c90 => ?_) (by omega) (by omega)
      · skip
        exact jr_sub (J102 hA (by unfold knw; omega) (by omega)) ⟨rfl, rfl, rfl, rfl, rfl, rfl, rfl, trivial⟩
      · skip
        refine jr_iload F dX8_reign_93 rfl ?_
        refine jr_iconst F dX8_reign_95 ?_
        refine jr_icmp_ne (tgt := 102) F dX8_reign_96 (by decide) (fun c96 => ?_) (fun c96 => ?_) (by omega) (by omega)
        · skip
          exact jr_sub (J102 hA (by unfold knw; omega) (by omega)) ⟨rfl, rfl, rfl, rfl, rfl, rfl, rfl, trivial⟩
        · skip
          refine jr_bipush F dX8_reign_99 (by decide) ?_
          exact jr_iret F dX8_reign_101 (pA_n (by unfold reiw; rw [if_pos (by omega), if_neg (by unfold knw; omega), if_pos (by omega)]) (by omega) rfl)
    · skip
      refine jr_iload F dX8_reign_73 rfl ?_
      refine jr_aload_n F dX8_reign_75 rfl ?_
      refine jr_getR (t := 5) F dX8_reign_76 fg_X8_22 (Nat.le_of_ble_eq_true rfl) rfl rfl ?_
      refine jr_iload F dX8_reign_79 rfl ?_
      refine jr_iald F dX8_reign_81 (Nat.le_of_ble_eq_true rfl) rfl (by omega) (fun q81 => ?_) (by omega) (by omega)
      have v81 : m 5 (((w 4 l))) = (fa w ((w 4 l)) 4) := (rmf4 hM (r := ((w 4 l))) (by omega) (by omega))
      rw [v81] at q81
      refine jr_ti v81 ?_
      refine jr_icmp_ge (tgt := 88) F dX8_reign_82 (by decide) (fun c82 => ?_) (fun c82 => ?_) (by omega) (by omega)
      · skip
        refine jr_iload_n F dX8_reign_88 rfl ?_
        refine jr_iconst F dX8_reign_89 ?_
        refine jr_icmp_ne (tgt := 102) F dX8_reign_90 (by decide) (fun c90 => ?_) (fun c90 => ?_) (by omega) (by omega)
        · skip
          exact jr_sub (J102 hA (by unfold knw; omega) (by omega)) ⟨rfl, rfl, rfl, rfl, rfl, rfl, rfl, trivial⟩
        · skip
          refine jr_iload F dX8_reign_93 rfl ?_
          refine jr_iconst F dX8_reign_95 ?_
          refine jr_icmp_ne (tgt := 102) F dX8_reign_96 (by decide) (fun c96 => ?_) (fun c96 => ?_) (by omega) (by omega)
          · skip
            exact jr_sub (J102 hA (by unfold knw; omega) (by omega)) ⟨rfl, rfl, rfl, rfl, rfl, rfl, rfl, trivial⟩
          · skip
            refine jr_bipush F dX8_reign_99 (by decide) ?_
            exact jr_iret F dX8_reign_101 (pA_n (by unfold reiw; rw [if_pos (by omega), if_neg (by unfold knw; omega), if_pos (by omega)]) (by omega) rfl)
      · skip
        refine jr_bipush F dX8_reign_85 (by decide) ?_
        exact jr_iret F dX8_reign_87 (pA_n (by unfold reiw knw; rw [if_pos (by omega), if_pos (by omega)]) (by omega) rfl)
  refine jr_iload_n F dX8_reign_0 rfl ?_
  refine jr_iconst F dX8_reign_1 ?_
  refine jr_iconst F dX8_reign_2 ?_
  refine jr_sI F dX8_reign_3 cs_X8_88 (c_X8_lies (by omega) (by omega) (by omega)) rfl (Nat.le_of_ble_eq_true rfl) (Nat.le_of_ble_eq_true rfl) rfl (Nat.le_of_ble_eq_true rfl) ?_
  refine jr_ifeq_b (tgt := 57) F dX8_reign_6 (by decide) (fun c6 => ?_) (fun c6 => ?_)
  · skip
    refine jr_bipush F dX8_reign_57 (by decide) ?_
    exact jr_iret F dX8_reign_59 (pA_n (by unfold reiw; rw [if_neg (by omega)]) (by omega) rfl)
  · skip
    refine jr_iload_n F dX8_reign_9 rfl ?_
    refine jr_iconst F dX8_reign_10 ?_
    refine jr_bipush F dX8_reign_11 (by decide) ?_
    refine jr_sI F dX8_reign_13 cs_X8_88 (c_X8_lies (by omega) (by omega) (by omega)) rfl (Nat.le_of_ble_eq_true rfl) (Nat.le_of_ble_eq_true rfl) rfl (Nat.le_of_ble_eq_true rfl) ?_
    refine jr_ifeq_b (tgt := 57) F dX8_reign_16 (by decide) (fun c16 => ?_) (fun c16 => ?_)
    · skip
      refine jr_bipush F dX8_reign_57 (by decide) ?_
      exact jr_iret F dX8_reign_59 (pA_n (by unfold reiw; rw [if_neg (by omega)]) (by omega) rfl)
    · skip
      refine jr_iload_n F dX8_reign_19 rfl ?_
      refine jr_iconst F dX8_reign_20 ?_
      refine jr_bipush F dX8_reign_21 (by decide) ?_
      refine jr_sI F dX8_reign_23 cs_X8_88 (c_X8_lies (by omega) (by omega) (by omega)) rfl (Nat.le_of_ble_eq_true rfl) (Nat.le_of_ble_eq_true rfl) rfl (Nat.le_of_ble_eq_true rfl) ?_
      refine jr_ifeq_b (tgt := 57) F dX8_reign_26 (by decide) (fun c26 => ?_) (fun c26 => ?_)
      · skip
        refine jr_bipush F dX8_reign_57 (by decide) ?_
        exact jr_iret F dX8_reign_59 (pA_n (by unfold reiw; rw [if_neg (by omega)]) (by omega) rfl)
      · skip
        refine jr_iload F dX8_reign_29 rfl ?_
        refine jr_iconst F dX8_reign_31 ?_
        refine jr_iload_n F dX8_reign_32 rfl ?_
        refine jr_iconst F dX8_reign_33 ?_
        refine jr_icmp_ne (tgt := 41) F dX8_reign_34 (by decide) (fun c34 => ?_) (fun c34 => ?_) (by omega) (by omega)
        · skip
          refine jr_bipush F dX8_reign_41 (by decide) ?_
          refine jr_sI F dX8_reign_43 cs_X8_88 (c_X8_lies (by omega) (by omega) (by omega)) rfl (Nat.le_of_ble_eq_true rfl) (Nat.le_of_ble_eq_true rfl) rfl (Nat.le_of_ble_eq_true rfl) ?_
          refine jr_ifeq_b (tgt := 57) F dX8_reign_46 (by decide) (fun c46 => ?_) (fun c46 => ?_)
          · skip
            refine jr_bipush F dX8_reign_57 (by decide) ?_
            exact jr_iret F dX8_reign_59 (pA_n (by unfold reiw; rw [if_neg (by omega)]) (by omega) rfl)
          · skip
            refine jr_iload F dX8_reign_49 rfl ?_
            refine jr_sI F dX8_reign_51 cs_X8_92 (c_X8_isEdition (by omega)) rfl (Nat.le_of_ble_eq_true rfl) (Nat.le_of_ble_eq_true rfl) rfl (Nat.le_of_ble_eq_true rfl) ?_
            refine jr_ifne_b (tgt := 60) F dX8_reign_54 (by decide) (fun c54 => ?_) (fun c54 => ?_)
            · skip
              exact jr_sub (J60 (by omega)) ⟨rfl, rfl, rfl, rfl, rfl, rfl, trivial⟩
            · skip
              refine jr_bipush F dX8_reign_57 (by decide) ?_
              exact jr_iret F dX8_reign_59 (pA_n (by unfold reiw; rw [if_neg (by omega)]) (by omega) rfl)
        · skip
          refine jr_iload_n F dX8_reign_37 rfl ?_
          refine jr_goto (tgt := 43) F dX8_reign_38 (by decide) ?_
          refine jr_sI F dX8_reign_43 cs_X8_88 (c_X8_lies (by omega) (by omega) (by omega)) rfl (Nat.le_of_ble_eq_true rfl) (Nat.le_of_ble_eq_true rfl) rfl (Nat.le_of_ble_eq_true rfl) ?_
          refine jr_ifeq_b (tgt := 57) F dX8_reign_46 (by decide) (fun c46 => ?_) (fun c46 => ?_)
          · skip
            refine jr_bipush F dX8_reign_57 (by decide) ?_
            exact jr_iret F dX8_reign_59 (pA_n (by unfold reiw; rw [if_neg (by omega)]) (by omega) rfl)
          · skip
            refine jr_iload F dX8_reign_49 rfl ?_
            refine jr_sI F dX8_reign_51 cs_X8_92 (c_X8_isEdition (by omega)) rfl (Nat.le_of_ble_eq_true rfl) (Nat.le_of_ble_eq_true rfl) rfl (Nat.le_of_ble_eq_true rfl) ?_
            refine jr_ifne_b (tgt := 60) F dX8_reign_54 (by decide) (fun c54 => ?_) (fun c54 => ?_)
            · skip
              exact jr_sub (J60 (by omega)) ⟨rfl, rfl, rfl, rfl, rfl, rfl, trivial⟩
            · skip
              refine jr_bipush F dX8_reign_57 (by decide) ?_
              exact jr_iret F dX8_reign_59 (pA_n (by unfold reiw; rw [if_neg (by omega)]) (by omega) rfl)

set_option maxRecDepth 100000 in
set_option maxHeartbeats 4000000 in
theorem c_X8_come {B : Bs} {w m : Wd} {s a x b y l e : Int} (hM : RM w m) (h5 : 0 ≤ w 5 3 ∧ w 5 3 ≤ 8) (hs : inR s) (ha : inR a) (hx : inR x) (hb : inR b) (hy : inR y) (hl : inR l) (he : inR e) : Sp (GM B) 0 yX8_come cX8_come 8 (Option.some FieldType.int) [.ref (ga (GM B) (0)), iv (s), iv (a), iv (x), iv (b), iv (y), iv (l), iv (e)] m (pI (accW (comw w) (addTm w m s a x b y l e) m) (comw w)) := by
  refine Sp.of (by decide) (Nat.le_of_ble_eq_true rfl) (fun X F => ?_)
  show Jw (GM B) X _ 0 [some (.ref (ga (GM B) (0))), some (iv (s)), some (iv (a)), some (iv (x)), some (iv (b)), some (iv (y)), some (iv (l)), some (iv (e))] [] m
  refine jr_aload_n F dX8_come_0 rfl ?_
  refine jr_getIx F (w 5 3) dX8_come_1 fg_X8_122 (Nat.le_of_ble_eq_true rfl) rfl rfl ((show m 0 8 = (w 5 3) from rn8 hM)) (fun q1 => ?_)
  refine jr_bipush F dX8_come_4 (by decide) ?_
  refine jr_icmp_ne (tgt := 12) F dX8_come_6 (by decide) (fun c6 => ?_) (fun c6 => ?_) (by omega) (by omega)
  · skip
    refine jr_aload_n F dX8_come_12 rfl ?_
    refine jr_getR (t := 8) F dX8_come_13 fg_X8_31 (Nat.le_of_ble_eq_true rfl) rfl rfl ?_
    refine jr_bipush F dX8_come_16 (by decide) ?_
    refine jr_aload_n F dX8_come_18 rfl ?_
    refine jr_getIx F (w 5 3) dX8_come_19 fg_X8_122 (Nat.le_of_ble_eq_true rfl) rfl rfl (by exact (show m 0 8 = w 5 3 from rn8 hM)) (fun q19 => ?_)
    refine jr_imul F dX8_come_22 ?_
    refine jr_iload_n F dX8_come_23 rfl ?_
    refine jr_iastx F dX8_come_24 (Nat.le_of_ble_eq_true rfl) rfl (by omega) (fun w24 e24 => ?_) (by omega) (by omega) (by omega)
    refine jr_aload_n F dX8_come_25 rfl ?_
    refine jr_getR (t := 8) F dX8_come_26 fg_X8_31 (Nat.le_of_ble_eq_true rfl) rfl rfl ?_
    refine jr_bipush F dX8_come_29 (by decide) ?_
    refine jr_aload_n F dX8_come_31 rfl ?_
    refine jr_getIx F (w 5 3) dX8_come_32 fg_X8_122 (Nat.le_of_ble_eq_true rfl) rfl rfl (by subst e24; exact (show m 0 8 = w 5 3 from rn8 hM)) (fun q32 => ?_)
    refine jr_imul F dX8_come_35 ?_
    refine jr_iconst F dX8_come_36 ?_
    refine jr_iadd F dX8_come_37 ?_
    refine jr_iload_n F dX8_come_38 rfl ?_
    refine jr_iastx F dX8_come_39 (Nat.le_of_ble_eq_true rfl) rfl (by omega) (fun w39 e39 => ?_) (by omega) (by omega) (by omega)
    refine jr_aload_n F dX8_come_40 rfl ?_
    refine jr_getR (t := 8) F dX8_come_41 fg_X8_31 (Nat.le_of_ble_eq_true rfl) rfl rfl ?_
    refine jr_bipush F dX8_come_44 (by decide) ?_
    refine jr_aload_n F dX8_come_46 rfl ?_
    refine jr_getIx F (w 5 3) dX8_come_47 fg_X8_122 (Nat.le_of_ble_eq_true rfl) rfl rfl (by subst e39; subst e24; exact (show m 0 8 = w 5 3 from rn8 hM)) (fun q47 => ?_)
    refine jr_imul F dX8_come_50 ?_
    refine jr_iconst F dX8_come_51 ?_
    refine jr_iadd F dX8_come_52 ?_
    refine jr_iload_n F dX8_come_53 rfl ?_
    refine jr_iastx F dX8_come_54 (Nat.le_of_ble_eq_true rfl) rfl (by omega) (fun w54 e54 => ?_) (by omega) (by omega) (by omega)
    refine jr_aload_n F dX8_come_55 rfl ?_
    refine jr_getR (t := 8) F dX8_come_56 fg_X8_31 (Nat.le_of_ble_eq_true rfl) rfl rfl ?_
    refine jr_bipush F dX8_come_59 (by decide) ?_
    refine jr_aload_n F dX8_come_61 rfl ?_
    refine jr_getIx F (w 5 3) dX8_come_62 fg_X8_122 (Nat.le_of_ble_eq_true rfl) rfl rfl (by subst e54; subst e39; subst e24; exact (show m 0 8 = w 5 3 from rn8 hM)) (fun q62 => ?_)
    refine jr_imul F dX8_come_65 ?_
    refine jr_iconst F dX8_come_66 ?_
    refine jr_iadd F dX8_come_67 ?_
    refine jr_iload F dX8_come_68 rfl ?_
    refine jr_iastx F dX8_come_70 (Nat.le_of_ble_eq_true rfl) rfl (by omega) (fun w70 e70 => ?_) (by omega) (by omega) (by omega)
    refine jr_aload_n F dX8_come_71 rfl ?_
    refine jr_getR (t := 8) F dX8_come_72 fg_X8_31 (Nat.le_of_ble_eq_true rfl) rfl rfl ?_
    refine jr_bipush F dX8_come_75 (by decide) ?_
    refine jr_aload_n F dX8_come_77 rfl ?_
    refine jr_getIx F (w 5 3) dX8_come_78 fg_X8_122 (Nat.le_of_ble_eq_true rfl) rfl rfl (by subst e70; subst e54; subst e39; subst e24; exact (show m 0 8 = w 5 3 from rn8 hM)) (fun q78 => ?_)
    refine jr_imul F dX8_come_81 ?_
    refine jr_iconst F dX8_come_82 ?_
    refine jr_iadd F dX8_come_83 ?_
    refine jr_iload F dX8_come_84 rfl ?_
    refine jr_iastx F dX8_come_86 (Nat.le_of_ble_eq_true rfl) rfl (by omega) (fun w86 e86 => ?_) (by omega) (by omega) (by omega)
    refine jr_aload_n F dX8_come_87 rfl ?_
    refine jr_getR (t := 8) F dX8_come_88 fg_X8_31 (Nat.le_of_ble_eq_true rfl) rfl rfl ?_
    refine jr_bipush F dX8_come_91 (by decide) ?_
    refine jr_aload_n F dX8_come_93 rfl ?_
    refine jr_getIx F (w 5 3) dX8_come_94 fg_X8_122 (Nat.le_of_ble_eq_true rfl) rfl rfl (by subst e86; subst e70; subst e54; subst e39; subst e24; exact (show m 0 8 = w 5 3 from rn8 hM)) (fun q94 => ?_)
    refine jr_imul F dX8_come_97 ?_
    refine jr_iconst F dX8_come_98 ?_
    refine jr_iadd F dX8_come_99 ?_
    refine jr_iload F dX8_come_100 rfl ?_
    refine jr_iastx F dX8_come_102 (Nat.le_of_ble_eq_true rfl) rfl (by omega) (fun w102 e102 => ?_) (by omega) (by omega) (by omega)
    refine jr_aload_n F dX8_come_103 rfl ?_
    refine jr_getR (t := 8) F dX8_come_104 fg_X8_31 (Nat.le_of_ble_eq_true rfl) rfl rfl ?_
    refine jr_bipush F dX8_come_107 (by decide) ?_
    refine jr_aload_n F dX8_come_109 rfl ?_
    refine jr_getIx F (w 5 3) dX8_come_110 fg_X8_122 (Nat.le_of_ble_eq_true rfl) rfl rfl (by subst e102; subst e86; subst e70; subst e54; subst e39; subst e24; exact (show m 0 8 = w 5 3 from rn8 hM)) (fun q110 => ?_)
    refine jr_imul F dX8_come_113 ?_
    refine jr_bipush F dX8_come_114 (by decide) ?_
    refine jr_iadd F dX8_come_116 ?_
    refine jr_iload F dX8_come_117 rfl ?_
    refine jr_iastx F dX8_come_119 (Nat.le_of_ble_eq_true rfl) rfl (by omega) (fun w119 e119 => ?_) (by omega) (by omega) (by omega)
    refine jr_aload_n F dX8_come_120 rfl ?_
    refine jr_dup F dX8_come_121 rfl ?_
    refine jr_getIx F (w 5 3) dX8_come_122 fg_X8_122 (Nat.le_of_ble_eq_true rfl) rfl rfl (by subst e119; subst e102; subst e86; subst e70; subst e54; subst e39; subst e24; exact (show m 0 8 = w 5 3 from rn8 hM)) (fun q122 => ?_)
    refine jr_iconst F dX8_come_125 ?_
    refine jr_iadd F dX8_come_126 ?_
    refine jr_putIx F dX8_come_127 fp_X8_122 (Nat.le_of_ble_eq_true rfl) rfl rfl (by omega) (fun w127 e127 => ?_)
    refine jr_aload_n F dX8_come_130 rfl ?_
    refine jr_getIx F (w 5 3 + 1) dX8_come_131 fg_X8_122 (Nat.le_of_ble_eq_true rfl) rfl rfl (by subst e127; subst e119; subst e102; subst e86; subst e70; subst e54; subst e39; subst e24; rfl) (fun q131 => ?_)
    refine jr_iconst F dX8_come_134 ?_
    refine jr_isub F dX8_come_135 ?_
    first | exact jr_iret F dX8_come_136 (pA_n (by unfold comw; (repeat' split) <;> omega) (by omega) (by subst e127; subst e119; subst e102; subst e86; subst e70; subst e54; subst e39; subst e24; first | rfl | omega)) | exact jr_iret F dX8_come_136 (pA_y (by unfold comw; (repeat' split) <;> omega) (by omega) (by subst e127; subst e119; subst e102; subst e86; subst e70; subst e54; subst e39; subst e24; first | rfl | omega))
  · skip
    refine jr_bipush F dX8_come_9 (by decide) ?_
    first | exact jr_iret F dX8_come_11 (pA_n (by unfold comw; (repeat' split) <;> omega) (by omega) rfl) | exact jr_iret F dX8_come_11 (pA_y (by unfold comw; (repeat' split) <;> omega) (by omega) rfl)

theorem pA_e {a b u : Wd} {r x : Int} (h : x = r) (hu : accW x a b = u) : pI (accW r a b) r (some (iv x)) u := by subst h; subst hu; exact ⟨rfl, rfl⟩

set_option maxRecDepth 100000 in
set_option maxHeartbeats 4000000 in
theorem c_X8_tie {B : Bs} {w m : Wd} {a x b y s e : Int} (hM : RM w m) (h3 : 0 ≤ w 1 3 ∧ w 1 3 ≤ 10) (h5 : 0 ≤ w 5 3 ∧ w 5 3 ≤ 8) (ha : inR a) (hx : inR x) (hb : inR b) (hy : inR y) (hs : inR s) (he : inR e) : Sp (GM B) 2 yX8_tie cX8_tie 7 (Option.some FieldType.int) [.ref (ga (GM B) (0)), iv (a), iv (x), iv (b), iv (y), iv (s), iv (e)] m (pI (accW (tiew w a x b y s e) (addTm w m 0 a x b y s e) m) (tiew w a x b y s e)) := by
  refine Sp.of (by decide) (Nat.le_of_ble_eq_true rfl) (fun X F => ?_)
  show Jw (GM B) X _ 0 [some (.ref (ga (GM B) (0))), some (iv (a)), some (iv (x)), some (iv (b)), some (iv (y)), some (iv (s)), some (iv (e))] [] m
  refine jr_aload_n F dX8_tie_0 rfl ?_
  refine jr_iload_n F dX8_tie_1 rfl ?_
  refine jr_vI F dX8_tie_2 cv_X8_103 (c_X8_isReign hM h3 (by omega)) (Nat.le_of_ble_eq_true rfl) rfl rfl rfl rfl (Nat.le_of_ble_eq_true rfl) (Nat.le_of_ble_eq_true rfl) rfl (Nat.le_of_ble_eq_true rfl) ?_
  refine jr_ifeq_b (tgt := 21) F dX8_tie_5 (by decide) (fun c5 => ?_) (fun c5 => ?_)
  · skip
    refine jr_bipush F dX8_tie_21 (by decide) ?_
    first | exact jr_iret F dX8_tie_23 (pA_n (by unfold tiew pairw; (repeat' split) <;> omega) (by omega) rfl) | (exact jr_iret F dX8_tie_23 (pA_e (by unfold tiew pairw comw; (repeat' split) <;> omega) rfl))
  · skip
    refine jr_aload_n F dX8_tie_8 rfl ?_
    refine jr_iload_n F dX8_tie_9 rfl ?_
    refine jr_vI F dX8_tie_10 cv_X8_103 (c_X8_isReign hM h3 (by omega)) (Nat.le_of_ble_eq_true rfl) rfl rfl rfl rfl (Nat.le_of_ble_eq_true rfl) (Nat.le_of_ble_eq_true rfl) rfl (Nat.le_of_ble_eq_true rfl) ?_
    refine jr_ifeq_b (tgt := 21) F dX8_tie_13 (by decide) (fun c13 => ?_) (fun c13 => ?_)
    · skip
      refine jr_bipush F dX8_tie_21 (by decide) ?_
      first | exact jr_iret F dX8_tie_23 (pA_n (by unfold tiew pairw; (repeat' split) <;> omega) (by omega) rfl) | (exact jr_iret F dX8_tie_23 (pA_e (by unfold tiew pairw comw; (repeat' split) <;> omega) rfl))
    · skip
      refine jr_iload_n F dX8_tie_16 rfl ?_
      refine jr_iload_n F dX8_tie_17 rfl ?_
      refine jr_icmp_ne (tgt := 24) F dX8_tie_18 (by decide) (fun c18 => ?_) (fun c18 => ?_) (by omega) (by omega)
      · skip
        refine jr_iload_n F dX8_tie_24 rfl ?_
        refine jr_sI F dX8_tie_25 cs_X8_125 (c_X8_isXth (by omega)) rfl (Nat.le_of_ble_eq_true rfl) (Nat.le_of_ble_eq_true rfl) rfl (Nat.le_of_ble_eq_true rfl) ?_
        refine jr_ifeq_b (tgt := 75) F dX8_tie_28 (by decide) (fun c28 => ?_) (fun c28 => ?_)
        · skip
          refine jr_bipush F dX8_tie_75 (by decide) ?_
          first | exact jr_iret F dX8_tie_77 (pA_n (by unfold tiew pairw; (repeat' split) <;> omega) (by omega) rfl) | (exact jr_iret F dX8_tie_77 (pA_e (by unfold tiew pairw comw; (repeat' split) <;> omega) rfl))
        · skip
          refine jr_iload F dX8_tie_31 rfl ?_
          refine jr_sI F dX8_tie_33 cs_X8_125 (c_X8_isXth (by omega)) rfl (Nat.le_of_ble_eq_true rfl) (Nat.le_of_ble_eq_true rfl) rfl (Nat.le_of_ble_eq_true rfl) ?_
          refine jr_ifeq_b (tgt := 75) F dX8_tie_36 (by decide) (fun c36 => ?_) (fun c36 => ?_)
          · skip
            refine jr_bipush F dX8_tie_75 (by decide) ?_
            first | exact jr_iret F dX8_tie_77 (pA_n (by unfold tiew pairw; (repeat' split) <;> omega) (by omega) rfl) | (exact jr_iret F dX8_tie_77 (pA_e (by unfold tiew pairw comw; (repeat' split) <;> omega) rfl))
          · skip
            refine jr_iload F dX8_tie_39 rfl ?_
            refine jr_iconst F dX8_tie_41 ?_
            refine jr_bipush F dX8_tie_42 (by decide) ?_
            refine jr_sI F dX8_tie_44 cs_X8_88 (c_X8_lies (by omega) (by omega) (by omega)) rfl (Nat.le_of_ble_eq_true rfl) (Nat.le_of_ble_eq_true rfl) rfl (Nat.le_of_ble_eq_true rfl) ?_
            refine jr_ifeq_b (tgt := 75) F dX8_tie_47 (by decide) (fun c47 => ?_) (fun c47 => ?_)
            · skip
              refine jr_bipush F dX8_tie_75 (by decide) ?_
              first | exact jr_iret F dX8_tie_77 (pA_n (by unfold tiew pairw; (repeat' split) <;> omega) (by omega) rfl) | (exact jr_iret F dX8_tie_77 (pA_e (by unfold tiew pairw comw; (repeat' split) <;> omega) rfl))
            · skip
              refine jr_iload F dX8_tie_50 rfl ?_
              refine jr_sI F dX8_tie_52 cs_X8_92 (c_X8_isEdition (by omega)) rfl (Nat.le_of_ble_eq_true rfl) (Nat.le_of_ble_eq_true rfl) rfl (Nat.le_of_ble_eq_true rfl) ?_
              refine jr_ifeq_b (tgt := 75) F dX8_tie_55 (by decide) (fun c55 => ?_) (fun c55 => ?_)
              · skip
                refine jr_bipush F dX8_tie_75 (by decide) ?_
                first | exact jr_iret F dX8_tie_77 (pA_n (by unfold tiew pairw; (repeat' split) <;> omega) (by omega) rfl) | (exact jr_iret F dX8_tie_77 (pA_e (by unfold tiew pairw comw; (repeat' split) <;> omega) rfl))
              · skip
                refine jr_aload_n F dX8_tie_58 rfl ?_
                refine jr_iconst F dX8_tie_59 ?_
                refine jr_iload_n F dX8_tie_60 rfl ?_
                refine jr_iload_n F dX8_tie_61 rfl ?_
                refine jr_iload_n F dX8_tie_62 rfl ?_
                refine jr_iload F dX8_tie_63 rfl ?_
                refine jr_iload F dX8_tie_65 rfl ?_
                refine jr_iload F dX8_tie_67 rfl ?_
                refine jr_vIx F dX8_tie_69 cv_X8_128 (c_X8_come hM h5 (by omega) (by omega) (by omega) (by omega) (by omega) (by omega) (by omega)) (Nat.le_of_ble_eq_true rfl) rfl rfl rfl rfl (Nat.le_of_ble_eq_true rfl) (Nat.le_of_ble_eq_true rfl) rfl (Nat.le_of_ble_eq_true rfl) (fun w69 e69 => ?_)
                refine jr_goto (tgt := 77) F dX8_tie_72 (by decide) ?_
                first | exact jr_iret F dX8_tie_77 (pA_n (by unfold tiew pairw; (repeat' split) <;> omega) (by omega) (by subst e69; first | rfl | omega)) | (exact jr_iret F dX8_tie_77 (pA_e (by unfold tiew pairw comw; (repeat' split) <;> omega) (by subst e69; first | rfl | omega)))
      · skip
        refine jr_bipush F dX8_tie_21 (by decide) ?_
        first | exact jr_iret F dX8_tie_23 (pA_n (by unfold tiew pairw; (repeat' split) <;> omega) (by omega) rfl) | (exact jr_iret F dX8_tie_23 (pA_e (by unfold tiew pairw comw; (repeat' split) <;> omega) rfl))

set_option maxRecDepth 100000 in
set_option maxHeartbeats 4000000 in
theorem c_X8_letter {B : Bs} {w m : Wd} {a x b y e : Int} (hM : RM w m) (h3 : 0 ≤ w 1 3 ∧ w 1 3 ≤ 10) (h5 : 0 ≤ w 5 3 ∧ w 5 3 ≤ 8) (ha : inR a) (hx : inR x) (hb : inR b) (hy : inR y) (he : inR e) : Sp (GM B) 2 yX8_letter cX8_letter 6 (Option.some FieldType.int) [.ref (ga (GM B) (0)), iv (a), iv (x), iv (b), iv (y), iv (e)] m (pI (accW (letw w a x b y e) (addTm w m 3 a x b y (-1) e) m) (letw w a x b y e)) := by
  refine Sp.of (by decide) (Nat.le_of_ble_eq_true rfl) (fun X F => ?_)
  show Jw (GM B) X _ 0 [some (.ref (ga (GM B) (0))), some (iv (a)), some (iv (x)), some (iv (b)), some (iv (y)), some (iv (e))] [] m
  refine jr_aload_n F dX8_letter_0 rfl ?_
  refine jr_iload_n F dX8_letter_1 rfl ?_
  refine jr_vI F dX8_letter_2 cv_X8_103 (c_X8_isReign hM h3 (by omega)) (Nat.le_of_ble_eq_true rfl) rfl rfl rfl rfl (Nat.le_of_ble_eq_true rfl) (Nat.le_of_ble_eq_true rfl) rfl (Nat.le_of_ble_eq_true rfl) ?_
  refine jr_ifeq_b (tgt := 21) F dX8_letter_5 (by decide) (fun c5 => ?_) (fun c5 => ?_)
  · skip
    refine jr_bipush F dX8_letter_21 (by decide) ?_
    first | exact jr_iret F dX8_letter_23 (pA_n (by unfold letw pairw; (repeat' split) <;> omega) (by omega) rfl) | (exact jr_iret F dX8_letter_23 (pA_e (by unfold letw pairw comw; (repeat' split) <;> omega) rfl))
  · skip
    refine jr_aload_n F dX8_letter_8 rfl ?_
    refine jr_iload_n F dX8_letter_9 rfl ?_
    refine jr_vI F dX8_letter_10 cv_X8_103 (c_X8_isReign hM h3 (by omega)) (Nat.le_of_ble_eq_true rfl) rfl rfl rfl rfl (Nat.le_of_ble_eq_true rfl) (Nat.le_of_ble_eq_true rfl) rfl (Nat.le_of_ble_eq_true rfl) ?_
    refine jr_ifeq_b (tgt := 21) F dX8_letter_13 (by decide) (fun c13 => ?_) (fun c13 => ?_)
    · skip
      refine jr_bipush F dX8_letter_21 (by decide) ?_
      first | exact jr_iret F dX8_letter_23 (pA_n (by unfold letw pairw; (repeat' split) <;> omega) (by omega) rfl) | (exact jr_iret F dX8_letter_23 (pA_e (by unfold letw pairw comw; (repeat' split) <;> omega) rfl))
    · skip
      refine jr_iload_n F dX8_letter_16 rfl ?_
      refine jr_iload_n F dX8_letter_17 rfl ?_
      refine jr_icmp_ne (tgt := 24) F dX8_letter_18 (by decide) (fun c18 => ?_) (fun c18 => ?_) (by omega) (by omega)
      · skip
        refine jr_iload_n F dX8_letter_24 rfl ?_
        refine jr_sI F dX8_letter_25 cs_X8_125 (c_X8_isXth (by omega)) rfl (Nat.le_of_ble_eq_true rfl) (Nat.le_of_ble_eq_true rfl) rfl (Nat.le_of_ble_eq_true rfl) ?_
        refine jr_ifeq_b (tgt := 63) F dX8_letter_28 (by decide) (fun c28 => ?_) (fun c28 => ?_)
        · skip
          refine jr_bipush F dX8_letter_63 (by decide) ?_
          first | exact jr_iret F dX8_letter_65 (pA_n (by unfold letw pairw; (repeat' split) <;> omega) (by omega) rfl) | (exact jr_iret F dX8_letter_65 (pA_e (by unfold letw pairw comw; (repeat' split) <;> omega) rfl))
        · skip
          refine jr_iload F dX8_letter_31 rfl ?_
          refine jr_sI F dX8_letter_33 cs_X8_125 (c_X8_isXth (by omega)) rfl (Nat.le_of_ble_eq_true rfl) (Nat.le_of_ble_eq_true rfl) rfl (Nat.le_of_ble_eq_true rfl) ?_
          refine jr_ifeq_b (tgt := 63) F dX8_letter_36 (by decide) (fun c36 => ?_) (fun c36 => ?_)
          · skip
            refine jr_bipush F dX8_letter_63 (by decide) ?_
            first | exact jr_iret F dX8_letter_65 (pA_n (by unfold letw pairw; (repeat' split) <;> omega) (by omega) rfl) | (exact jr_iret F dX8_letter_65 (pA_e (by unfold letw pairw comw; (repeat' split) <;> omega) rfl))
          · skip
            refine jr_iload F dX8_letter_39 rfl ?_
            refine jr_sI F dX8_letter_41 cs_X8_92 (c_X8_isEdition (by omega)) rfl (Nat.le_of_ble_eq_true rfl) (Nat.le_of_ble_eq_true rfl) rfl (Nat.le_of_ble_eq_true rfl) ?_
            refine jr_ifeq_b (tgt := 63) F dX8_letter_44 (by decide) (fun c44 => ?_) (fun c44 => ?_)
            · skip
              refine jr_bipush F dX8_letter_63 (by decide) ?_
              first | exact jr_iret F dX8_letter_65 (pA_n (by unfold letw pairw; (repeat' split) <;> omega) (by omega) rfl) | (exact jr_iret F dX8_letter_65 (pA_e (by unfold letw pairw comw; (repeat' split) <;> omega) rfl))
            · skip
              refine jr_aload_n F dX8_letter_47 rfl ?_
              refine jr_iconst F dX8_letter_48 ?_
              refine jr_iload_n F dX8_letter_49 rfl ?_
              refine jr_iload_n F dX8_letter_50 rfl ?_
              refine jr_iload_n F dX8_letter_51 rfl ?_
              refine jr_iload F dX8_letter_52 rfl ?_
              refine jr_iconst F dX8_letter_54 ?_
              refine jr_iload F dX8_letter_55 rfl ?_
              refine jr_vIx F dX8_letter_57 cv_X8_128 (c_X8_come hM h5 (by omega) (by omega) (by omega) (by omega) (by omega) (by omega) (by omega)) (Nat.le_of_ble_eq_true rfl) rfl rfl rfl rfl (Nat.le_of_ble_eq_true rfl) (Nat.le_of_ble_eq_true rfl) rfl (Nat.le_of_ble_eq_true rfl) (fun w57 e57 => ?_)
              refine jr_goto (tgt := 65) F dX8_letter_60 (by decide) ?_
              first | exact jr_iret F dX8_letter_65 (pA_n (by unfold letw pairw; (repeat' split) <;> omega) (by omega) (by subst e57; first | rfl | omega)) | (exact jr_iret F dX8_letter_65 (pA_e (by unfold letw pairw comw; (repeat' split) <;> omega) (by subst e57; first | rfl | omega)))
      · skip
        refine jr_bipush F dX8_letter_21 (by decide) ?_
        first | exact jr_iret F dX8_letter_23 (pA_n (by unfold letw pairw; (repeat' split) <;> omega) (by omega) rfl) | (exact jr_iret F dX8_letter_23 (pA_e (by unfold letw pairw comw; (repeat' split) <;> omega) rfl))

set_option maxRecDepth 100000 in
set_option maxHeartbeats 4000000 in
theorem c_X8_wish {B : Bs} {w m : Wd} {a x b y s : Int} (hM : RM w m) (h3 : 0 ≤ w 1 3 ∧ w 1 3 ≤ 10) (h5 : 0 ≤ w 8 3 ∧ w 8 3 ≤ 6) (ha : inR a) (hx : inR x) (hb : inR b) (hy : inR y) (hs : inR s) : Sp (GM B) 2 yX8_wish cX8_wish 6 (Option.some FieldType.int) [.ref (ga (GM B) (0)), iv (a), iv (x), iv (b), iv (y), iv (s)] m (pI (accW (wisw w a x b y s) (addWm w m a x b y s) m) (wisw w a x b y s)) := by
  refine Sp.of (by decide) (Nat.le_of_ble_eq_true rfl) (fun X F => ?_)
  show Jw (GM B) X _ 0 [some (.ref (ga (GM B) (0))), some (iv (a)), some (iv (x)), some (iv (b)), some (iv (y)), some (iv (s))] [] m
  refine jr_aload_n F dX8_wish_0 rfl ?_
  refine jr_iload_n F dX8_wish_1 rfl ?_
  refine jr_vI F dX8_wish_2 cv_X8_103 (c_X8_isReign hM h3 (by omega)) (Nat.le_of_ble_eq_true rfl) rfl rfl rfl rfl (Nat.le_of_ble_eq_true rfl) (Nat.le_of_ble_eq_true rfl) rfl (Nat.le_of_ble_eq_true rfl) ?_
  refine jr_ifeq_b (tgt := 21) F dX8_wish_5 (by decide) (fun c5 => ?_) (fun c5 => ?_)
  · skip
    refine jr_bipush F dX8_wish_21 (by decide) ?_
    first | exact jr_iret F dX8_wish_23 (pA_n (by unfold wisw pairw; (repeat' split) <;> omega) (by omega) rfl) | exact jr_iret F dX8_wish_23 (pA_y (by unfold wisw pairw; (repeat' split) <;> omega) (by omega) rfl)
  · skip
    refine jr_aload_n F dX8_wish_8 rfl ?_
    refine jr_iload_n F dX8_wish_9 rfl ?_
    refine jr_vI F dX8_wish_10 cv_X8_103 (c_X8_isReign hM h3 (by omega)) (Nat.le_of_ble_eq_true rfl) rfl rfl rfl rfl (Nat.le_of_ble_eq_true rfl) (Nat.le_of_ble_eq_true rfl) rfl (Nat.le_of_ble_eq_true rfl) ?_
    refine jr_ifeq_b (tgt := 21) F dX8_wish_13 (by decide) (fun c13 => ?_) (fun c13 => ?_)
    · skip
      refine jr_bipush F dX8_wish_21 (by decide) ?_
      first | exact jr_iret F dX8_wish_23 (pA_n (by unfold wisw pairw; (repeat' split) <;> omega) (by omega) rfl) | exact jr_iret F dX8_wish_23 (pA_y (by unfold wisw pairw; (repeat' split) <;> omega) (by omega) rfl)
    · skip
      refine jr_iload_n F dX8_wish_16 rfl ?_
      refine jr_iload_n F dX8_wish_17 rfl ?_
      refine jr_icmp_ne (tgt := 24) F dX8_wish_18 (by decide) (fun c18 => ?_) (fun c18 => ?_) (by omega) (by omega)
      · skip
        refine jr_iload_n F dX8_wish_24 rfl ?_
        refine jr_sI F dX8_wish_25 cs_X8_125 (c_X8_isXth (by omega)) rfl (Nat.le_of_ble_eq_true rfl) (Nat.le_of_ble_eq_true rfl) rfl (Nat.le_of_ble_eq_true rfl) ?_
        refine jr_ifeq_b (tgt := 50) F dX8_wish_28 (by decide) (fun c28 => ?_) (fun c28 => ?_)
        · skip
          refine jr_bipush F dX8_wish_50 (by decide) ?_
          first | exact jr_iret F dX8_wish_52 (pA_n (by unfold wisw pairw; (repeat' split) <;> omega) (by omega) rfl) | exact jr_iret F dX8_wish_52 (pA_y (by unfold wisw pairw; (repeat' split) <;> omega) (by omega) rfl)
        · skip
          refine jr_iload F dX8_wish_31 rfl ?_
          refine jr_sI F dX8_wish_33 cs_X8_125 (c_X8_isXth (by omega)) rfl (Nat.le_of_ble_eq_true rfl) (Nat.le_of_ble_eq_true rfl) rfl (Nat.le_of_ble_eq_true rfl) ?_
          refine jr_ifeq_b (tgt := 50) F dX8_wish_36 (by decide) (fun c36 => ?_) (fun c36 => ?_)
          · skip
            refine jr_bipush F dX8_wish_50 (by decide) ?_
            first | exact jr_iret F dX8_wish_52 (pA_n (by unfold wisw pairw; (repeat' split) <;> omega) (by omega) rfl) | exact jr_iret F dX8_wish_52 (pA_y (by unfold wisw pairw; (repeat' split) <;> omega) (by omega) rfl)
          · skip
            refine jr_iload F dX8_wish_39 rfl ?_
            refine jr_iconst F dX8_wish_41 ?_
            refine jr_bipush F dX8_wish_42 (by decide) ?_
            refine jr_sI F dX8_wish_44 cs_X8_88 (c_X8_lies (by omega) (by omega) (by omega)) rfl (Nat.le_of_ble_eq_true rfl) (Nat.le_of_ble_eq_true rfl) rfl (Nat.le_of_ble_eq_true rfl) ?_
            refine jr_ifne_b (tgt := 53) F dX8_wish_47 (by decide) (fun c47 => ?_) (fun c47 => ?_)
            · skip
              refine jr_aload_n F dX8_wish_53 rfl ?_
              refine jr_getIx F (w 8 3) dX8_wish_54 fg_X8_237 (Nat.le_of_ble_eq_true rfl) rfl rfl ((show m 0 16 = (w 8 3) from rn16 hM)) (fun q54 => ?_)
              refine jr_bipush F dX8_wish_57 (by decide) ?_
              refine jr_icmp_ne (tgt := 65) F dX8_wish_59 (by decide) (fun c59 => ?_) (fun c59 => ?_) (by omega) (by omega)
              · skip
                refine jr_aload_n F dX8_wish_65 rfl ?_
                refine jr_getR (t := 14) F dX8_wish_66 fg_X8_50 (Nat.le_of_ble_eq_true rfl) rfl rfl ?_
                refine jr_iconst F dX8_wish_69 ?_
                refine jr_aload_n F dX8_wish_70 rfl ?_
                refine jr_getIx F (w 8 3) dX8_wish_71 fg_X8_237 (Nat.le_of_ble_eq_true rfl) rfl rfl (by exact (show m 0 16 = w 8 3 from rn16 hM)) (fun q71 => ?_)
                refine jr_imul F dX8_wish_74 ?_
                refine jr_iload_n F dX8_wish_75 rfl ?_
                refine jr_iastx F dX8_wish_76 (Nat.le_of_ble_eq_true rfl) rfl (by omega) (fun w76 e76 => ?_) (by omega) (by omega) (by omega)
                refine jr_aload_n F dX8_wish_77 rfl ?_
                refine jr_getR (t := 14) F dX8_wish_78 fg_X8_50 (Nat.le_of_ble_eq_true rfl) rfl rfl ?_
                refine jr_iconst F dX8_wish_81 ?_
                refine jr_aload_n F dX8_wish_82 rfl ?_
                refine jr_getIx F (w 8 3) dX8_wish_83 fg_X8_237 (Nat.le_of_ble_eq_true rfl) rfl rfl (by subst e76; exact (show m 0 16 = w 8 3 from rn16 hM)) (fun q83 => ?_)
                refine jr_imul F dX8_wish_86 ?_
                refine jr_iconst F dX8_wish_87 ?_
                refine jr_iadd F dX8_wish_88 ?_
                refine jr_iload_n F dX8_wish_89 rfl ?_
                refine jr_iastx F dX8_wish_90 (Nat.le_of_ble_eq_true rfl) rfl (by omega) (fun w90 e90 => ?_) (by omega) (by omega) (by omega)
                refine jr_aload_n F dX8_wish_91 rfl ?_
                refine jr_getR (t := 14) F dX8_wish_92 fg_X8_50 (Nat.le_of_ble_eq_true rfl) rfl rfl ?_
                refine jr_iconst F dX8_wish_95 ?_
                refine jr_aload_n F dX8_wish_96 rfl ?_
                refine jr_getIx F (w 8 3) dX8_wish_97 fg_X8_237 (Nat.le_of_ble_eq_true rfl) rfl rfl (by subst e90; subst e76; exact (show m 0 16 = w 8 3 from rn16 hM)) (fun q97 => ?_)
                refine jr_imul F dX8_wish_100 ?_
                refine jr_iconst F dX8_wish_101 ?_
                refine jr_iadd F dX8_wish_102 ?_
                refine jr_iload_n F dX8_wish_103 rfl ?_
                refine jr_iastx F dX8_wish_104 (Nat.le_of_ble_eq_true rfl) rfl (by omega) (fun w104 e104 => ?_) (by omega) (by omega) (by omega)
                refine jr_aload_n F dX8_wish_105 rfl ?_
                refine jr_getR (t := 14) F dX8_wish_106 fg_X8_50 (Nat.le_of_ble_eq_true rfl) rfl rfl ?_
                refine jr_iconst F dX8_wish_109 ?_
                refine jr_aload_n F dX8_wish_110 rfl ?_
                refine jr_getIx F (w 8 3) dX8_wish_111 fg_X8_237 (Nat.le_of_ble_eq_true rfl) rfl rfl (by subst e104; subst e90; subst e76; exact (show m 0 16 = w 8 3 from rn16 hM)) (fun q111 => ?_)
                refine jr_imul F dX8_wish_114 ?_
                refine jr_iconst F dX8_wish_115 ?_
                refine jr_iadd F dX8_wish_116 ?_
                refine jr_iload F dX8_wish_117 rfl ?_
                refine jr_iastx F dX8_wish_119 (Nat.le_of_ble_eq_true rfl) rfl (by omega) (fun w119 e119 => ?_) (by omega) (by omega) (by omega)
                refine jr_aload_n F dX8_wish_120 rfl ?_
                refine jr_getR (t := 14) F dX8_wish_121 fg_X8_50 (Nat.le_of_ble_eq_true rfl) rfl rfl ?_
                refine jr_iconst F dX8_wish_124 ?_
                refine jr_aload_n F dX8_wish_125 rfl ?_
                refine jr_getIx F (w 8 3) dX8_wish_126 fg_X8_237 (Nat.le_of_ble_eq_true rfl) rfl rfl (by subst e119; subst e104; subst e90; subst e76; exact (show m 0 16 = w 8 3 from rn16 hM)) (fun q126 => ?_)
                refine jr_imul F dX8_wish_129 ?_
                refine jr_iconst F dX8_wish_130 ?_
                refine jr_iadd F dX8_wish_131 ?_
                refine jr_iload F dX8_wish_132 rfl ?_
                refine jr_iastx F dX8_wish_134 (Nat.le_of_ble_eq_true rfl) rfl (by omega) (fun w134 e134 => ?_) (by omega) (by omega) (by omega)
                refine jr_aload_n F dX8_wish_135 rfl ?_
                refine jr_dup F dX8_wish_136 rfl ?_
                refine jr_getIx F (w 8 3) dX8_wish_137 fg_X8_237 (Nat.le_of_ble_eq_true rfl) rfl rfl (by subst e134; subst e119; subst e104; subst e90; subst e76; exact (show m 0 16 = w 8 3 from rn16 hM)) (fun q137 => ?_)
                refine jr_iconst F dX8_wish_140 ?_
                refine jr_iadd F dX8_wish_141 ?_
                refine jr_putIx F dX8_wish_142 fp_X8_237 (Nat.le_of_ble_eq_true rfl) rfl rfl (by omega) (fun w142 e142 => ?_)
                refine jr_aload_n F dX8_wish_145 rfl ?_
                refine jr_getIx F (w 8 3 + 1) dX8_wish_146 fg_X8_237 (Nat.le_of_ble_eq_true rfl) rfl rfl (by subst e142; subst e134; subst e119; subst e104; subst e90; subst e76; rfl) (fun q146 => ?_)
                refine jr_iconst F dX8_wish_149 ?_
                refine jr_isub F dX8_wish_150 ?_
                first | exact jr_iret F dX8_wish_151 (pA_n (by unfold wisw pairw; (repeat' split) <;> omega) (by omega) (by subst e142; subst e134; subst e119; subst e104; subst e90; subst e76; first | rfl | omega)) | exact jr_iret F dX8_wish_151 (pA_y (by unfold wisw pairw; (repeat' split) <;> omega) (by omega) (by subst e142; subst e134; subst e119; subst e104; subst e90; subst e76; first | rfl | omega))
              · skip
                refine jr_bipush F dX8_wish_62 (by decide) ?_
                first | exact jr_iret F dX8_wish_64 (pA_n (by unfold wisw pairw; (repeat' split) <;> omega) (by omega) rfl) | exact jr_iret F dX8_wish_64 (pA_y (by unfold wisw pairw; (repeat' split) <;> omega) (by omega) rfl)
            · skip
              refine jr_bipush F dX8_wish_50 (by decide) ?_
              first | exact jr_iret F dX8_wish_52 (pA_n (by unfold wisw pairw; (repeat' split) <;> omega) (by omega) rfl) | exact jr_iret F dX8_wish_52 (pA_y (by unfold wisw pairw; (repeat' split) <;> omega) (by omega) rfl)
      · skip
        refine jr_bipush F dX8_wish_21 (by decide) ?_
        first | exact jr_iret F dX8_wish_23 (pA_n (by unfold wisw pairw; (repeat' split) <;> omega) (by omega) rfl) | exact jr_iret F dX8_wish_23 (pA_y (by unfold wisw pairw; (repeat' split) <;> omega) (by omega) rfl)

set_option maxRecDepth 100000 in
set_option maxHeartbeats 4000000 in
theorem c_X8_tied {B : Bs} {w m : Wd} {t f : Int} (hM : RM w m) (h5 : 0 ≤ w 5 3 ∧ w 5 3 ≤ 8) (hr : inR t) (hf : inR f) : Sp (GM B) 2 yX8_tied cX8_tied 3 (Option.some FieldType.int) [.ref (ga (GM B) (0)), iv (t), iv (f)] m (pI m (tidw w t f)) := by
  refine Sp.of (by decide) (Nat.le_of_ble_eq_true rfl) (fun X F => ?_)
  show Jw (GM B) X _ 0 [some (.ref (ga (GM B) (0))), some (iv (t)), some (iv (f))] [] m
  refine jr_aload_n F dX8_tied_0 rfl ?_
  refine jr_iload_n F dX8_tied_1 rfl ?_
  refine jr_vI F dX8_tied_2 cv_X8_135 (c_X8_isTie hM h5 (by omega)) (Nat.le_of_ble_eq_true rfl) rfl rfl rfl rfl (Nat.le_of_ble_eq_true rfl) (Nat.le_of_ble_eq_true rfl) rfl (Nat.le_of_ble_eq_true rfl) ?_
  refine jr_ifne_b (tgt := 13) F dX8_tied_5 (by decide) (fun c5 => ?_) (fun c5 => ?_)
  · skip
    refine jr_iload_n F dX8_tied_13 rfl ?_
    refine jr_iconst F dX8_tied_14 ?_
    refine jr_bipush F dX8_tied_15 (by decide) ?_
    refine jr_sI F dX8_tied_17 cs_X8_88 (c_X8_lies (by omega) (by omega) (by omega)) rfl (Nat.le_of_ble_eq_true rfl) (Nat.le_of_ble_eq_true rfl) rfl (Nat.le_of_ble_eq_true rfl) ?_
    refine jr_ifeq_b (tgt := 37) F dX8_tied_20 (by decide) (fun c20 => ?_) (fun c20 => ?_)
    · skip
      refine jr_bipush F dX8_tied_37 (by decide) ?_
      exact jr_iret F dX8_tied_39 (pI_of (by unfold tidw; (repeat' split) <;> first | rfl | omega) rfl)
    · skip
      refine jr_aload_n F dX8_tied_23 rfl ?_
      refine jr_getR (t := 8) F dX8_tied_24 fg_X8_31 (Nat.le_of_ble_eq_true rfl) rfl rfl ?_
      refine jr_bipush F dX8_tied_27 (by decide) ?_
      refine jr_iload_n F dX8_tied_29 rfl ?_
      refine jr_imul F dX8_tied_30 ?_
      refine jr_iload_n F dX8_tied_31 rfl ?_
      refine jr_iadd F dX8_tied_32 ?_
      refine jr_iald F dX8_tied_33 (Nat.le_of_ble_eq_true rfl) rfl (by omega) (fun q33 => ?_) (by omega) (by omega)
      refine jr_ti (b := (tfa w t f)) (rmT hM (by omega) (by omega) (by omega) (by omega)) ?_
      refine jr_goto (tgt := 39) F dX8_tied_34 (by decide) ?_
      exact jr_iret F dX8_tied_39 (pI_of (by unfold tidw; (repeat' split) <;> first | rfl | omega) rfl)
  · skip
    refine jr_bipush F dX8_tied_8 (by decide) ?_
    refine jr_goto (tgt := 39) F dX8_tied_10 (by decide) ?_
    exact jr_iret F dX8_tied_39 (pI_of (by unfold tidw; (repeat' split) <;> first | rfl | omega) rfl)

set_option maxRecDepth 100000 in
set_option maxHeartbeats 4000000 in
theorem c_X8_undo {B : Bs} {w m : Wd}  (hM : RM w m) (h5 : 0 ≤ w 5 3 ∧ w 5 3 ≤ 8) : Sp (GM B) 0 yX8_undo cX8_undo 1 (Option.some FieldType.int) [.ref (ga (GM B) (0))] m (pI (accW (undw w) (up m 0 8 (w 5 3 - 1)) m) (undw w)) := by
  refine Sp.of (by decide) (Nat.le_of_ble_eq_true rfl) (fun X F => ?_)
  show Jw (GM B) X _ 0 [some (.ref (ga (GM B) (0)))] [] m
  refine jr_aload_n F dX8_undo_0 rfl ?_
  refine jr_getIx F (w 5 3) dX8_undo_1 fg_X8_122 (Nat.le_of_ble_eq_true rfl) rfl rfl ((show m 0 8 = (w 5 3) from rn8 hM)) (fun q1 => ?_)
  refine jr_if_ne (tgt := 10) F dX8_undo_4 (by decide) (fun c4 => ?_) (fun c4 => ?_) (by omega)
  · skip
    refine jr_aload_n F dX8_undo_10 rfl ?_
    refine jr_dup F dX8_undo_11 rfl ?_
    refine jr_getIx F (w 5 3) dX8_undo_12 fg_X8_122 (Nat.le_of_ble_eq_true rfl) rfl rfl (by exact (show m 0 8 = w 5 3 from rn8 hM)) (fun q12 => ?_)
    refine jr_iconst F dX8_undo_15 ?_
    refine jr_isub F dX8_undo_16 ?_
    refine jr_putIx F dX8_undo_17 fp_X8_122 (Nat.le_of_ble_eq_true rfl) rfl rfl (by omega) (fun w17 e17 => ?_)
    refine jr_aload_n F dX8_undo_20 rfl ?_
    refine jr_getIx F (w 5 3 - 1) dX8_undo_21 fg_X8_122 (Nat.le_of_ble_eq_true rfl) rfl rfl (by subst e17; rfl) (fun q21 => ?_)
    first | exact jr_iret F dX8_undo_24 (pA_n (by unfold undw; (repeat' split) <;> omega) (by omega) (by subst e17; first | rfl | omega)) | exact jr_iret F dX8_undo_24 (pA_y (by unfold undw; (repeat' split) <;> omega) (by omega) (by subst e17; first | rfl | omega))
  · skip
    refine jr_bipush F dX8_undo_7 (by decide) ?_
    first | exact jr_iret F dX8_undo_9 (pA_n (by unfold undw; (repeat' split) <;> omega) (by omega) rfl) | exact jr_iret F dX8_undo_9 (pA_y (by unfold undw; (repeat' split) <;> omega) (by omega) rfl)

set_option maxRecDepth 100000 in
set_option maxHeartbeats 4000000 in
theorem c_X8_blank {B : Bs} {w m : Wd}  (hM : RM w m) : Sp (GM B) 0 yX8_blank cX8_blank 2 (Option.some FieldType.int) [.ref (ga (GM B) (0))] m (pI (up m 0 11 0) (w 18 1)) := by
  refine Sp.of (by decide) (Nat.le_of_ble_eq_true rfl) (fun X F => ?_)
  show Jw (GM B) X _ 0 [some (.ref (ga (GM B) (0)))] [] m
  refine jr_aload_n F dX8_blank_0 rfl ?_
  refine jr_getIx F (w 18 1) dX8_blank_1 fg_X8_140 (Nat.le_of_ble_eq_true rfl) rfl rfl ((show m 0 11 = (w 18 1) from rn11 hM)) (fun q1 => ?_)
  refine jr_istore_n F dX8_blank_4 (Nat.le_of_ble_eq_true rfl) rfl ?_
  refine jr_aload_n F dX8_blank_5 rfl ?_
  refine jr_iconst F dX8_blank_6 ?_
  refine jr_putIx F dX8_blank_7 fp_X8_140 (Nat.le_of_ble_eq_true rfl) rfl rfl (by omega) (fun w7 e7 => ?_)
  refine jr_iload_n F dX8_blank_10 rfl ?_
  exact jr_iret F dX8_blank_11 (pI_of (by first | rfl | omega) (by subst e7; first | rfl | omega))

noncomputable def telM (w m : Wd) (r y : Int) : Wd := if (0 ≤ r ∧ r < w 1 3) ∧ -2000 ≤ y ∧ y ≤ 2000 then up m 7 r y else m

set_option maxRecDepth 100000 in
set_option maxHeartbeats 4000000 in
theorem c_X8_tell {B : Bs} {w m : Wd} {r y : Int} (hM : RM w m) (h3 : 0 ≤ w 1 3 ∧ w 1 3 ≤ 10) (hr : inR r) (hy : inR y) : Sp (GM B) 2 yX8_tell cX8_tell 4 (Option.some FieldType.int) [.ref (ga (GM B) (0)), iv (r), iv (y)] m (pI (telM w m r y) (telw w r y)) := by
  refine Sp.of (by decide) (Nat.le_of_ble_eq_true rfl) (fun X F => ?_)
  show Jw (GM B) X _ 0 [some (.ref (ga (GM B) (0))), some (iv (r)), some (iv (y))] [] m
  refine jr_aload_n F dX8_tell_0 rfl ?_
  refine jr_iload_n F dX8_tell_1 rfl ?_
  refine jr_vI F dX8_tell_2 cv_X8_103 (c_X8_isReign hM h3 (by omega)) (Nat.le_of_ble_eq_true rfl) rfl rfl rfl rfl (Nat.le_of_ble_eq_true rfl) (Nat.le_of_ble_eq_true rfl) rfl (Nat.le_of_ble_eq_true rfl) ?_
  refine jr_ifne_b (tgt := 12) F dX8_tell_5 (by decide) (fun c5 => ?_) (fun c5 => ?_)
  · skip
    refine jr_iload_n F dX8_tell_12 rfl ?_
    refine jr_sI F dX8_tell_13 cs_X8_132 (c_X8_isYear (by omega)) rfl (Nat.le_of_ble_eq_true rfl) (Nat.le_of_ble_eq_true rfl) rfl (Nat.le_of_ble_eq_true rfl) ?_
    refine jr_ifne_b (tgt := 23) F dX8_tell_16 (by decide) (fun c16 => ?_) (fun c16 => ?_)
    · skip
      refine jr_aload_n F dX8_tell_23 rfl ?_
      refine jr_getR (t := 7) F dX8_tell_24 fg_X8_28 (Nat.le_of_ble_eq_true rfl) rfl rfl ?_
      refine jr_iload_n F dX8_tell_27 rfl ?_
      refine jr_iald F dX8_tell_28 (Nat.le_of_ble_eq_true rfl) rfl (by omega) (fun q28 => ?_) (by omega) (by omega)
      have v28 : m 7 (r) = (td w r) := (rmt hM (r := r))
      rw [v28] at q28
      refine jr_ti v28 ?_
      refine jr_istore_n F dX8_tell_29 (Nat.le_of_ble_eq_true rfl) rfl ?_
      refine jr_aload_n F dX8_tell_30 rfl ?_
      refine jr_getR (t := 7) F dX8_tell_31 fg_X8_28 (Nat.le_of_ble_eq_true rfl) rfl rfl ?_
      refine jr_iload_n F dX8_tell_34 rfl ?_
      refine jr_iload_n F dX8_tell_35 rfl ?_
      refine jr_iastx F dX8_tell_36 (Nat.le_of_ble_eq_true rfl) rfl (by omega) (fun w36 e36 => ?_) (by omega) (by omega) (by omega)
      refine jr_iload_n F dX8_tell_37 rfl ?_
      exact jr_iret F dX8_tell_38 (pI_of (by unfold telw; rw [if_pos c5, if_pos c16]) (by unfold telM; rw [if_pos ⟨c5, c16⟩]; exact e36.symm))
    · skip
      refine jr_sipush F dX8_tell_19 (by decide) ?_
      exact jr_iret F dX8_tell_22 (pI_of (by unfold telw; rw [if_pos c5, if_neg c16]) (by unfold telM; rw [if_neg (fun q => c16 q.2)]))
  · skip
    refine jr_sipush F dX8_tell_8 (by decide) ?_
    exact jr_iret F dX8_tell_11 (pI_of (by unfold telw; rw [if_neg c5]) (by unfold telM; rw [if_neg (fun q => c5 q.1)]))

set_option maxRecDepth 100000 in
set_option maxHeartbeats 4000000 in
theorem c_X8_mayLast {B : Bs} {w m : Wd} {r c z : Int} (hM : RM w m) (hs : smR w r) (hc : 0 ≤ c ∧ c ≤ 1) (hz : inR z) : Sp (GM B) 2 yX8_mayLast cX8_mayLast 4 (Option.some FieldType.boolean) [.ref (ga (GM B) (0)), iv (r), iv (c), iv (z)] m (pI m (bi (fitw w r c z))) := by
  refine Sp.of (by decide) (Nat.le_of_ble_eq_true rfl) (fun X F => ?_)
  obtain ⟨s0, s1, sf⟩ := id hs
  have f1 := sf 1 (by omega) (by omega)
  have f2 := sf 2 (by omega) (by omega)
  have f3 := sf 3 (by omega) (by omega)
  have l1 := lea_R hs (c := c) hc
  have l2 := mos_R hs (c := c) hc
  have oo : -61 ≤ othw w r c ∧ othw w r c ≤ 61 := by unfold othw; split <;> omega
  show Jw (GM B) X _ 0 [some (.ref (ga (GM B) (0))), some (iv (r)), some (iv (c)), some (iv (z))] [] m
  refine jr_aload_n F dX8_mayLast_0 rfl ?_
  refine jr_getR (t := 2) F dX8_mayLast_1 fg_X8_13 (Nat.le_of_ble_eq_true rfl) rfl rfl ?_
  refine jr_iload_n F dX8_mayLast_4 rfl ?_
  refine jr_iald F dX8_mayLast_5 (Nat.le_of_ble_eq_true rfl) rfl (by omega) (fun q5 => ?_) (by omega) (by omega)
  have v5 : m 2 (r) = (fa w r 1) := (rmf1 hM (r := r) (by omega) (by omega))
  rw [v5] at q5
  refine jr_ti v5 ?_
  refine jr_sI F dX8_mayLast_6 cs_X8_100 (c_X8_isMisread (by omega)) rfl (Nat.le_of_ble_eq_true rfl) (Nat.le_of_ble_eq_true rfl) rfl (Nat.le_of_ble_eq_true rfl) ?_
  refine jr_ifeq_b (tgt := 40) F dX8_mayLast_9 (by decide) (fun c9 => ?_) (fun c9 => ?_)
  · skip
    refine jr_iload_n F dX8_mayLast_40 rfl ?_
    refine jr_aload_n F dX8_mayLast_41 rfl ?_
    refine jr_iload_n F dX8_mayLast_42 rfl ?_
    refine jr_iload_n F dX8_mayLast_43 rfl ?_
    refine jr_vI F dX8_mayLast_44 cv_X8_116 (c_X8_leastOf hM (by assumption) (by omega)) (Nat.le_of_ble_eq_true rfl) rfl rfl rfl rfl (Nat.le_of_ble_eq_true rfl) (Nat.le_of_ble_eq_true rfl) rfl (Nat.le_of_ble_eq_true rfl) ?_
    refine jr_aload_n F dX8_mayLast_47 rfl ?_
    refine jr_iload_n F dX8_mayLast_48 rfl ?_
    refine jr_iload_n F dX8_mayLast_49 rfl ?_
    refine jr_vI F dX8_mayLast_50 cv_X8_113 (c_X8_mostOf hM (by assumption) (by omega)) (Nat.le_of_ble_eq_true rfl) rfl rfl rfl rfl (Nat.le_of_ble_eq_true rfl) (Nat.le_of_ble_eq_true rfl) rfl (Nat.le_of_ble_eq_true rfl) ?_
    refine jr_sI F dX8_mayLast_53 cs_X8_88 (c_X8_lies (by omega) (by omega) (by omega)) rfl (Nat.le_of_ble_eq_true rfl) (Nat.le_of_ble_eq_true rfl) rfl (Nat.le_of_ble_eq_true rfl) ?_
    first | exact jr_zret F dX8_mayLast_56 (pI_of (bi_t (Or.inl ⟨c9, by omega⟩)).symm rfl) (by omega) | exact jr_zret F dX8_mayLast_56 (pI_of (bi_f (by unfold fitw; simp only [c9, true_and, not_true_eq_false, false_and, or_false]; omega)).symm rfl) (by omega) | exact jr_zret F dX8_mayLast_56 (pI_of (bi_c (by unfold fitw; simp only [c9, not_false_eq_true, true_and, false_and, false_or])) rfl) (bi_01 _)
  · skip
    have k2 : ¬ fa w r 1 = 2 := by unfold isMis at c9; omega
    have k5 : ¬ fa w r 1 = 5 := by unfold isMis at c9; omega
    have e1 : leaw w r c = min (fa w r 2 - c) (othw w r c) := by unfold leaw; rw [if_neg k2, if_neg k5, if_pos c9]
    have e2 : mosw w r c = max (fa w r 2 - c) (othw w r c) := by unfold mosw; rw [if_neg k5, if_pos c9]
    refine jr_iload_n F dX8_mayLast_12 rfl ?_
    refine jr_aload_n F dX8_mayLast_13 rfl ?_
    refine jr_getR (t := 3) F dX8_mayLast_14 fg_X8_16 (Nat.le_of_ble_eq_true rfl) rfl rfl ?_
    refine jr_iload_n F dX8_mayLast_17 rfl ?_
    refine jr_iald F dX8_mayLast_18 (Nat.le_of_ble_eq_true rfl) rfl (by omega) (fun q18 => ?_) (by omega) (by omega)
    have v18 : m 3 (r) = (fa w r 2) := (rmf2 hM (r := r) (by omega) (by omega))
    rw [v18] at q18
    refine jr_ti v18 ?_
    refine jr_iload_n F dX8_mayLast_19 rfl ?_
    refine jr_isub F dX8_mayLast_20 ?_
    refine jr_icmp_eq (tgt := 34) F dX8_mayLast_21 (by decide) (fun c21 => ?_) (fun c21 => ?_) (by omega) (by omega)
    · skip
      refine jr_iconst F dX8_mayLast_34 ?_
      refine jr_goto (tgt := 39) F dX8_mayLast_35 (by decide) ?_
      first | exact jr_zret F dX8_mayLast_39 (pI_of (bi_t (Or.inl ⟨c9, by omega⟩)).symm rfl) (by omega) | exact jr_zret F dX8_mayLast_39 (pI_of (bi_f (by unfold fitw; simp only [c9, true_and, not_true_eq_false, false_and, or_false]; omega)).symm rfl) (by omega) | exact jr_zret F dX8_mayLast_39 (pI_of (bi_c (by unfold fitw; simp only [c9, not_false_eq_true, true_and, false_and, false_or])) rfl) (bi_01 _)
    · skip
      refine jr_iload_n F dX8_mayLast_24 rfl ?_
      refine jr_aload_n F dX8_mayLast_25 rfl ?_
      refine jr_iload_n F dX8_mayLast_26 rfl ?_
      refine jr_iload_n F dX8_mayLast_27 rfl ?_
      refine jr_vI F dX8_mayLast_28 cv_X8_110 (c_X8_otherLength hM (by assumption) (by omega)) (Nat.le_of_ble_eq_true rfl) rfl rfl rfl rfl (Nat.le_of_ble_eq_true rfl) (Nat.le_of_ble_eq_true rfl) rfl (Nat.le_of_ble_eq_true rfl) ?_
      refine jr_icmp_ne (tgt := 38) F dX8_mayLast_31 (by decide) (fun c31 => ?_) (fun c31 => ?_) (by omega) (by omega)
      · skip
        refine jr_iconst F dX8_mayLast_38 ?_
        first | exact jr_zret F dX8_mayLast_39 (pI_of (bi_t (Or.inl ⟨c9, by omega⟩)).symm rfl) (by omega) | exact jr_zret F dX8_mayLast_39 (pI_of (bi_f (by unfold fitw; simp only [c9, true_and, not_true_eq_false, false_and, or_false]; omega)).symm rfl) (by omega) | exact jr_zret F dX8_mayLast_39 (pI_of (bi_c (by unfold fitw; simp only [c9, not_false_eq_true, true_and, false_and, false_or])) rfl) (bi_01 _)
      · skip
        refine jr_iconst F dX8_mayLast_34 ?_
        refine jr_goto (tgt := 39) F dX8_mayLast_35 (by decide) ?_
        first | exact jr_zret F dX8_mayLast_39 (pI_of (bi_t (Or.inl ⟨c9, by omega⟩)).symm rfl) (by omega) | exact jr_zret F dX8_mayLast_39 (pI_of (bi_f (by unfold fitw; simp only [c9, true_and, not_true_eq_false, false_and, or_false]; omega)).symm rfl) (by omega) | exact jr_zret F dX8_mayLast_39 (pI_of (bi_c (by unfold fitw; simp only [c9, not_false_eq_true, true_and, false_and, false_or])) rfl) (bi_01 _)

set_option maxRecDepth 100000 in
set_option maxHeartbeats 4000000 in
theorem c_X8_holdsTold {B : Bs} {w m : Wd} {t : Int} (hM : RM w m) (hs : smT w t) (ha : 0 ≤ tfa w t 1 ∧ tfa w t 1 < 10) (hk : 0 ≤ tfa w t 0 ∧ tfa w t 0 ≤ 3) (hb : (tfa w t 0 = 1 ∨ tfa w t 0 = 2) ∨ (0 ≤ tfa w t 3 ∧ tfa w t 3 < 10)) (hn : (tfa w t 0 = 1 ∨ tfa w t 0 = 2) → tfa w t 3 = -1) (ht : ∀ r : Int, -2000 ≤ td w r ∧ td w r ≤ 2000) : Sp (GM B) 1 yX8_holdsTold cX8_holdsTold 4 (Option.some FieldType.boolean) [.ref (ga (GM B) (0)), iv (t)] m (pI m (bi (holdw w t))) := by
  refine Sp.of (by decide) (Nat.le_of_ble_eq_true rfl) (fun X F => ?_)
  have t0 := hs.1
  have t1 := hs.2.1
  have g0 := hs.2.2.1 0 (by omega) (by omega)
  have g1 := hs.2.2.1 1 (by omega) (by omega)
  have g2 := hs.2.2.1 2 (by omega) (by omega)
  have g3 := hs.2.2.1 3 (by omega) (by omega)
  have g4 := hs.2.2.1 4 (by omega) (by omega)
  have g5 := hs.2.2.1 5 (by omega) (by omega)
  have y0 := hs.2.2.2 0 (by omega) (by omega)
  have y1 := hs.2.2.2 1 (by omega) (by omega)
  have y2 := hs.2.2.2 2 (by omega) (by omega)
  have d1 := ht (tfa w t 1)
  have d3 := ht (tfa w t 3)
  show Jw (GM B) X _ 0 [some (.ref (ga (GM B) (0))), some (iv (t))] [] m
  refine jr_aload_n F dX8_holdsTold_0 rfl ?_
  refine jr_getR (t := 7) F dX8_holdsTold_1 fg_X8_28 (Nat.le_of_ble_eq_true rfl) rfl rfl ?_
  refine jr_aload_n F dX8_holdsTold_4 rfl ?_
  refine jr_getR (t := 8) F dX8_holdsTold_5 fg_X8_31 (Nat.le_of_ble_eq_true rfl) rfl rfl ?_
  refine jr_bipush F dX8_holdsTold_8 (by decide) ?_
  refine jr_iload_n F dX8_holdsTold_10 rfl ?_
  refine jr_imul F dX8_holdsTold_11 ?_
  refine jr_iconst F dX8_holdsTold_12 ?_
  refine jr_iadd F dX8_holdsTold_13 ?_
  refine jr_iald F dX8_holdsTold_14 (Nat.le_of_ble_eq_true rfl) rfl (by omega) (fun q14 => ?_) (by omega) (by omega)
  have v14 : m 8 (((7 * t) + 1)) = (tfa w t 1) := (rmT hM (t := t) (f := 1) (by omega) (by omega) (by omega) (by omega))
  rw [v14] at q14
  refine jr_ti v14 ?_
  refine jr_iald F dX8_holdsTold_15 (Nat.le_of_ble_eq_true rfl) rfl (by omega) (fun q15 => ?_) (by omega) (by omega)
  have v15 : m 7 ((tfa w t 1)) = (td w (tfa w t 1)) := (rmt hM (r := (tfa w t 1)))
  rw [v15] at q15
  refine jr_ti v15 ?_
  refine jr_aload_n F dX8_holdsTold_16 rfl ?_
  refine jr_getR (t := 8) F dX8_holdsTold_17 fg_X8_31 (Nat.le_of_ble_eq_true rfl) rfl rfl ?_
  refine jr_bipush F dX8_holdsTold_20 (by decide) ?_
  refine jr_iload_n F dX8_holdsTold_22 rfl ?_
  refine jr_imul F dX8_holdsTold_23 ?_
  refine jr_iconst F dX8_holdsTold_24 ?_
  refine jr_iadd F dX8_holdsTold_25 ?_
  refine jr_iald F dX8_holdsTold_26 (Nat.le_of_ble_eq_true rfl) rfl (by omega) (fun q26 => ?_) (by omega) (by omega)
  have v26 : m 8 (((7 * t) + 2)) = (tfa w t 2) := (rmT hM (t := t) (f := 2) (by omega) (by omega) (by omega) (by omega))
  rw [v26] at q26
  refine jr_ti v26 ?_
  refine jr_iadd F dX8_holdsTold_27 ?_
  refine jr_iconst F dX8_holdsTold_28 ?_
  refine jr_isub F dX8_holdsTold_29 ?_
  refine jr_istore_n F dX8_holdsTold_30 (Nat.le_of_ble_eq_true rfl) rfl ?_
  refine jr_aload_n F dX8_holdsTold_31 rfl ?_
  refine jr_getR (t := 8) F dX8_holdsTold_32 fg_X8_31 (Nat.le_of_ble_eq_true rfl) rfl rfl ?_
  refine jr_bipush F dX8_holdsTold_35 (by decide) ?_
  refine jr_iload_n F dX8_holdsTold_37 rfl ?_
  refine jr_imul F dX8_holdsTold_38 ?_
  refine jr_iconst F dX8_holdsTold_39 ?_
  refine jr_iadd F dX8_holdsTold_40 ?_
  refine jr_iald F dX8_holdsTold_41 (Nat.le_of_ble_eq_true rfl) rfl (by omega) (fun q41 => ?_) (by omega) (by omega)
  have v41 : m 8 (((7 * t) + 3)) = (tfa w t 3) := (rmT hM (t := t) (f := 3) (by omega) (by omega) (by omega) (by omega))
  rw [v41] at q41
  refine jr_ti v41 ?_
  refine jr_iconst F dX8_holdsTold_42 ?_
  refine jr_icmp_ne (tgt := 50) F dX8_holdsTold_43 (by decide) (fun c43 => ?_) (fun c43 => ?_) (by omega) (by omega)
  · skip
    refine jr_aload_n F dX8_holdsTold_50 rfl ?_
    refine jr_getR (t := 7) F dX8_holdsTold_51 fg_X8_28 (Nat.le_of_ble_eq_true rfl) rfl rfl ?_
    refine jr_aload_n F dX8_holdsTold_54 rfl ?_
    refine jr_getR (t := 8) F dX8_holdsTold_55 fg_X8_31 (Nat.le_of_ble_eq_true rfl) rfl rfl ?_
    refine jr_bipush F dX8_holdsTold_58 (by decide) ?_
    refine jr_iload_n F dX8_holdsTold_60 rfl ?_
    refine jr_imul F dX8_holdsTold_61 ?_
    refine jr_iconst F dX8_holdsTold_62 ?_
    refine jr_iadd F dX8_holdsTold_63 ?_
    refine jr_iald F dX8_holdsTold_64 (Nat.le_of_ble_eq_true rfl) rfl (by omega) (fun q64 => ?_) (by omega) (by omega)
    have v64 : m 8 (((7 * t) + 3)) = (tfa w t 3) := (rmT hM (t := t) (f := 3) (by omega) (by omega) (by omega) (by omega))
    rw [v64] at q64
    refine jr_ti v64 ?_
    refine jr_iald F dX8_holdsTold_65 (Nat.le_of_ble_eq_true rfl) rfl (by omega) (fun q65 => ?_) (by omega) (by omega)
    have v65 : m 7 ((tfa w t 3)) = (td w (tfa w t 3)) := (rmt hM (r := (tfa w t 3)))
    rw [v65] at q65
    refine jr_ti v65 ?_
    refine jr_aload_n F dX8_holdsTold_66 rfl ?_
    refine jr_getR (t := 8) F dX8_holdsTold_67 fg_X8_31 (Nat.le_of_ble_eq_true rfl) rfl rfl ?_
    refine jr_bipush F dX8_holdsTold_70 (by decide) ?_
    refine jr_iload_n F dX8_holdsTold_72 rfl ?_
    refine jr_imul F dX8_holdsTold_73 ?_
    refine jr_iconst F dX8_holdsTold_74 ?_
    refine jr_iadd F dX8_holdsTold_75 ?_
    refine jr_iald F dX8_holdsTold_76 (Nat.le_of_ble_eq_true rfl) rfl (by omega) (fun q76 => ?_) (by omega) (by omega)
    have v76 : m 8 (((7 * t) + 4)) = (tfa w t 4) := (rmT hM (t := t) (f := 4) (by omega) (by omega) (by omega) (by omega))
    rw [v76] at q76
    refine jr_ti v76 ?_
    refine jr_iadd F dX8_holdsTold_77 ?_
    refine jr_iconst F dX8_holdsTold_78 ?_
    refine jr_isub F dX8_holdsTold_79 ?_
    refine jr_istore_n F dX8_holdsTold_80 (Nat.le_of_ble_eq_true rfl) rfl ?_
    refine jr_aload_n F dX8_holdsTold_81 rfl ?_
    refine jr_getR (t := 8) F dX8_holdsTold_82 fg_X8_31 (Nat.le_of_ble_eq_true rfl) rfl rfl ?_
    refine jr_bipush F dX8_holdsTold_85 (by decide) ?_
    refine jr_iload_n F dX8_holdsTold_87 rfl ?_
    refine jr_imul F dX8_holdsTold_88 ?_
    refine jr_iald F dX8_holdsTold_89 (Nat.le_of_ble_eq_true rfl) rfl (by omega) (fun q89 => ?_) (by omega) (by omega)
    have v89 : m 8 ((7 * t)) = (tfa w t 0) := (rmT0 hM (t := t) (by omega) (by omega))
    rw [v89] at q89
    refine jr_ti v89 ?_
    rcases (show (tfa w t 0) = 0 ∨ (tfa w t 0) = 1 ∨ (tfa w t 0) = 2 ∨ ((tfa w t 0) < 0 ∨ 2 < (tfa w t 0)) by omega) with c90 | c90 | c90 | c90
    · refine jr_tsIn (tgt := 116) F (0) dX8_holdsTold_90 c90 (by omega) (by omega) rfl (by decide) (by omega) ?_
      refine jr_iload_n F dX8_holdsTold_116 rfl ?_
      refine jr_iload_n F dX8_holdsTold_117 rfl ?_
      refine jr_isub F dX8_holdsTold_118 ?_
      refine jr_aload_n F dX8_holdsTold_119 rfl ?_
      refine jr_getR (t := 8) F dX8_holdsTold_120 fg_X8_31 (Nat.le_of_ble_eq_true rfl) rfl rfl ?_
      refine jr_bipush F dX8_holdsTold_123 (by decide) ?_
      refine jr_iload_n F dX8_holdsTold_125 rfl ?_
      refine jr_imul F dX8_holdsTold_126 ?_
      refine jr_iconst F dX8_holdsTold_127 ?_
      refine jr_iadd F dX8_holdsTold_128 ?_
      refine jr_iald F dX8_holdsTold_129 (Nat.le_of_ble_eq_true rfl) rfl (by omega) (fun q129 => ?_) (by omega) (by omega)
      have v129 : m 8 (((7 * t) + 5)) = (tfa w t 5) := (rmT hM (t := t) (f := 5) (by omega) (by omega) (by omega) (by omega))
      rw [v129] at q129
      refine jr_ti v129 ?_
      refine jr_ineg F dX8_holdsTold_130 ?_
      refine jr_aload_n F dX8_holdsTold_131 rfl ?_
      refine jr_getR (t := 8) F dX8_holdsTold_132 fg_X8_31 (Nat.le_of_ble_eq_true rfl) rfl rfl ?_
      refine jr_bipush F dX8_holdsTold_135 (by decide) ?_
      refine jr_iload_n F dX8_holdsTold_137 rfl ?_
      refine jr_imul F dX8_holdsTold_138 ?_
      refine jr_iconst F dX8_holdsTold_139 ?_
      refine jr_iadd F dX8_holdsTold_140 ?_
      refine jr_iald F dX8_holdsTold_141 (Nat.le_of_ble_eq_true rfl) rfl (by omega) (fun q141 => ?_) (by omega) (by omega)
      have v141 : m 8 (((7 * t) + 5)) = (tfa w t 5) := (rmT hM (t := t) (f := 5) (by omega) (by omega) (by omega) (by omega))
      rw [v141] at q141
      refine jr_ti v141 ?_
      refine jr_sI F dX8_holdsTold_142 cs_X8_88 (c_X8_lies (by omega) (by omega) (by omega)) rfl (Nat.le_of_ble_eq_true rfl) (Nat.le_of_ble_eq_true rfl) rfl (Nat.le_of_ble_eq_true rfl) ?_
      first | exact jr_zret F dX8_holdsTold_145 (pI_of (bi_t (by unfold holdw latw begw; omega)).symm rfl) (by omega) | exact jr_zret F dX8_holdsTold_145 (pI_of (bi_f (by unfold holdw latw begw; omega)).symm rfl) (by omega) | exact jr_zret F dX8_holdsTold_145 (pI_of (bi_c (by unfold holdw latw begw; omega)) rfl) (bi_01 _)
    · refine jr_tsIn (tgt := 146) F (1) dX8_holdsTold_90 c90 (by omega) (by omega) rfl (by decide) (by omega) ?_
      refine jr_iload_n F dX8_holdsTold_146 rfl ?_
      refine jr_aload_n F dX8_holdsTold_147 rfl ?_
      refine jr_getR (t := 9) F dX8_holdsTold_148 fg_X8_34 (Nat.le_of_ble_eq_true rfl) rfl rfl ?_
      refine jr_iconst F dX8_holdsTold_151 ?_
      refine jr_iload_n F dX8_holdsTold_152 rfl ?_
      refine jr_imul F dX8_holdsTold_153 ?_
      refine jr_iald F dX8_holdsTold_154 (Nat.le_of_ble_eq_true rfl) rfl (by omega) (fun q154 => ?_) (by omega) (by omega)
      have v154 : m 9 ((3 * t)) = (tyr w t 0) := (rmY0 hM (t := t) (by omega) (by omega))
      rw [v154] at q154
      refine jr_ti v154 ?_
      refine jr_icmp_eq (tgt := 186) F dX8_holdsTold_155 (by decide) (fun c155 => ?_) (fun c155 => ?_) (by omega) (by omega)
      · skip
        refine jr_iconst F dX8_holdsTold_186 ?_
        refine jr_goto (tgt := 191) F dX8_holdsTold_187 (by decide) ?_
        first | exact jr_zret F dX8_holdsTold_191 (pI_of (bi_t (by unfold holdw latw begw; omega)).symm rfl) (by omega) | exact jr_zret F dX8_holdsTold_191 (pI_of (bi_f (by unfold holdw latw begw; omega)).symm rfl) (by omega) | exact jr_zret F dX8_holdsTold_191 (pI_of (bi_c (by unfold holdw latw begw; omega)) rfl) (bi_01 _)
      · skip
        refine jr_iload_n F dX8_holdsTold_158 rfl ?_
        refine jr_aload_n F dX8_holdsTold_159 rfl ?_
        refine jr_getR (t := 9) F dX8_holdsTold_160 fg_X8_34 (Nat.le_of_ble_eq_true rfl) rfl rfl ?_
        refine jr_iconst F dX8_holdsTold_163 ?_
        refine jr_iload_n F dX8_holdsTold_164 rfl ?_
        refine jr_imul F dX8_holdsTold_165 ?_
        refine jr_iconst F dX8_holdsTold_166 ?_
        refine jr_iadd F dX8_holdsTold_167 ?_
        refine jr_iald F dX8_holdsTold_168 (Nat.le_of_ble_eq_true rfl) rfl (by omega) (fun q168 => ?_) (by omega) (by omega)
        have v168 : m 9 (((3 * t) + 1)) = (tyr w t 1) := (rmY hM (t := t) (f := 1) (by omega) (by omega) (by omega) (by omega))
        rw [v168] at q168
        refine jr_ti v168 ?_
        refine jr_icmp_eq (tgt := 186) F dX8_holdsTold_169 (by decide) (fun c169 => ?_) (fun c169 => ?_) (by omega) (by omega)
        · skip
          refine jr_iconst F dX8_holdsTold_186 ?_
          refine jr_goto (tgt := 191) F dX8_holdsTold_187 (by decide) ?_
          first | exact jr_zret F dX8_holdsTold_191 (pI_of (bi_t (by unfold holdw latw begw; omega)).symm rfl) (by omega) | exact jr_zret F dX8_holdsTold_191 (pI_of (bi_f (by unfold holdw latw begw; omega)).symm rfl) (by omega) | exact jr_zret F dX8_holdsTold_191 (pI_of (bi_c (by unfold holdw latw begw; omega)) rfl) (bi_01 _)
        · skip
          refine jr_iload_n F dX8_holdsTold_172 rfl ?_
          refine jr_aload_n F dX8_holdsTold_173 rfl ?_
          refine jr_getR (t := 9) F dX8_holdsTold_174 fg_X8_34 (Nat.le_of_ble_eq_true rfl) rfl rfl ?_
          refine jr_iconst F dX8_holdsTold_177 ?_
          refine jr_iload_n F dX8_holdsTold_178 rfl ?_
          refine jr_imul F dX8_holdsTold_179 ?_
          refine jr_iconst F dX8_holdsTold_180 ?_
          refine jr_iadd F dX8_holdsTold_181 ?_
          refine jr_iald F dX8_holdsTold_182 (Nat.le_of_ble_eq_true rfl) rfl (by omega) (fun q182 => ?_) (by omega) (by omega)
          have v182 : m 9 (((3 * t) + 2)) = (tyr w t 2) := (rmY hM (t := t) (f := 2) (by omega) (by omega) (by omega) (by omega))
          rw [v182] at q182
          refine jr_ti v182 ?_
          refine jr_icmp_ne (tgt := 190) F dX8_holdsTold_183 (by decide) (fun c183 => ?_) (fun c183 => ?_) (by omega) (by omega)
          · skip
            refine jr_iconst F dX8_holdsTold_190 ?_
            first | exact jr_zret F dX8_holdsTold_191 (pI_of (bi_t (by unfold holdw latw begw; omega)).symm rfl) (by omega) | exact jr_zret F dX8_holdsTold_191 (pI_of (bi_f (by unfold holdw latw begw; omega)).symm rfl) (by omega) | exact jr_zret F dX8_holdsTold_191 (pI_of (bi_c (by unfold holdw latw begw; omega)) rfl) (bi_01 _)
          · skip
            refine jr_iconst F dX8_holdsTold_186 ?_
            refine jr_goto (tgt := 191) F dX8_holdsTold_187 (by decide) ?_
            first | exact jr_zret F dX8_holdsTold_191 (pI_of (bi_t (by unfold holdw latw begw; omega)).symm rfl) (by omega) | exact jr_zret F dX8_holdsTold_191 (pI_of (bi_f (by unfold holdw latw begw; omega)).symm rfl) (by omega) | exact jr_zret F dX8_holdsTold_191 (pI_of (bi_c (by unfold holdw latw begw; omega)) rfl) (bi_01 _)
    · refine jr_tsIn (tgt := 192) F (2) dX8_holdsTold_90 c90 (by omega) (by omega) rfl (by decide) (by omega) ?_
      refine jr_iload_n F dX8_holdsTold_192 rfl ?_
      refine jr_aload_n F dX8_holdsTold_193 rfl ?_
      refine jr_getR (t := 9) F dX8_holdsTold_194 fg_X8_34 (Nat.le_of_ble_eq_true rfl) rfl rfl ?_
      refine jr_iconst F dX8_holdsTold_197 ?_
      refine jr_iload_n F dX8_holdsTold_198 rfl ?_
      refine jr_imul F dX8_holdsTold_199 ?_
      refine jr_iald F dX8_holdsTold_200 (Nat.le_of_ble_eq_true rfl) rfl (by omega) (fun q200 => ?_) (by omega) (by omega)
      have v200 : m 9 ((3 * t)) = (tyr w t 0) := (rmY0 hM (t := t) (by omega) (by omega))
      rw [v200] at q200
      refine jr_ti v200 ?_
      refine jr_icmp_lt (tgt := 208) F dX8_holdsTold_201 (by decide) (fun c201 => ?_) (fun c201 => ?_) (by omega) (by omega)
      · skip
        refine jr_iconst F dX8_holdsTold_208 ?_
        first | exact jr_zret F dX8_holdsTold_209 (pI_of (bi_t (by unfold holdw latw begw; omega)).symm rfl) (by omega) | exact jr_zret F dX8_holdsTold_209 (pI_of (bi_f (by unfold holdw latw begw; omega)).symm rfl) (by omega) | exact jr_zret F dX8_holdsTold_209 (pI_of (bi_c (by unfold holdw latw begw; omega)) rfl) (bi_01 _)
      · skip
        refine jr_iconst F dX8_holdsTold_204 ?_
        refine jr_goto (tgt := 209) F dX8_holdsTold_205 (by decide) ?_
        first | exact jr_zret F dX8_holdsTold_209 (pI_of (bi_t (by unfold holdw latw begw; omega)).symm rfl) (by omega) | exact jr_zret F dX8_holdsTold_209 (pI_of (bi_f (by unfold holdw latw begw; omega)).symm rfl) (by omega) | exact jr_zret F dX8_holdsTold_209 (pI_of (bi_c (by unfold holdw latw begw; omega)) rfl) (bi_01 _)
    · refine jr_tsOut (tgt := 210) F dX8_holdsTold_90 c90 (by decide) (by omega) ?_
      refine jr_iload_n F dX8_holdsTold_210 rfl ?_
      refine jr_iload_n F dX8_holdsTold_211 rfl ?_
      refine jr_icmp_gt (tgt := 219) F dX8_holdsTold_212 (by decide) (fun c212 => ?_) (fun c212 => ?_) (by omega) (by omega)
      · skip
        refine jr_iconst F dX8_holdsTold_219 ?_
        first | exact jr_zret F dX8_holdsTold_220 (pI_of (bi_t (by unfold holdw latw begw; omega)).symm rfl) (by omega) | exact jr_zret F dX8_holdsTold_220 (pI_of (bi_f (by unfold holdw latw begw; omega)).symm rfl) (by omega) | exact jr_zret F dX8_holdsTold_220 (pI_of (bi_c (by unfold holdw latw begw; omega)) rfl) (bi_01 _)
      · skip
        refine jr_iconst F dX8_holdsTold_215 ?_
        refine jr_goto (tgt := 220) F dX8_holdsTold_216 (by decide) ?_
        first | exact jr_zret F dX8_holdsTold_220 (pI_of (bi_t (by unfold holdw latw begw; omega)).symm rfl) (by omega) | exact jr_zret F dX8_holdsTold_220 (pI_of (bi_f (by unfold holdw latw begw; omega)).symm rfl) (by omega) | exact jr_zret F dX8_holdsTold_220 (pI_of (bi_c (by unfold holdw latw begw; omega)) rfl) (bi_01 _)
  · skip
    refine jr_iconst F dX8_holdsTold_46 ?_
    refine jr_goto (tgt := 80) F dX8_holdsTold_47 (by decide) ?_
    refine jr_istore_n F dX8_holdsTold_80 (Nat.le_of_ble_eq_true rfl) rfl ?_
    refine jr_aload_n F dX8_holdsTold_81 rfl ?_
    refine jr_getR (t := 8) F dX8_holdsTold_82 fg_X8_31 (Nat.le_of_ble_eq_true rfl) rfl rfl ?_
    refine jr_bipush F dX8_holdsTold_85 (by decide) ?_
    refine jr_iload_n F dX8_holdsTold_87 rfl ?_
    refine jr_imul F dX8_holdsTold_88 ?_
    refine jr_iald F dX8_holdsTold_89 (Nat.le_of_ble_eq_true rfl) rfl (by omega) (fun q89 => ?_) (by omega) (by omega)
    have v89 : m 8 ((7 * t)) = (tfa w t 0) := (rmT0 hM (t := t) (by omega) (by omega))
    rw [v89] at q89
    refine jr_ti v89 ?_
    rcases (show (tfa w t 0) = 0 ∨ (tfa w t 0) = 1 ∨ (tfa w t 0) = 2 ∨ ((tfa w t 0) < 0 ∨ 2 < (tfa w t 0)) by omega) with c90 | c90 | c90 | c90
    · refine jr_tsIn (tgt := 116) F (0) dX8_holdsTold_90 c90 (by omega) (by omega) rfl (by decide) (by omega) ?_
      refine jr_iload_n F dX8_holdsTold_116 rfl ?_
      refine jr_iload_n F dX8_holdsTold_117 rfl ?_
      refine jr_isub F dX8_holdsTold_118 ?_
      refine jr_aload_n F dX8_holdsTold_119 rfl ?_
      refine jr_getR (t := 8) F dX8_holdsTold_120 fg_X8_31 (Nat.le_of_ble_eq_true rfl) rfl rfl ?_
      refine jr_bipush F dX8_holdsTold_123 (by decide) ?_
      refine jr_iload_n F dX8_holdsTold_125 rfl ?_
      refine jr_imul F dX8_holdsTold_126 ?_
      refine jr_iconst F dX8_holdsTold_127 ?_
      refine jr_iadd F dX8_holdsTold_128 ?_
      refine jr_iald F dX8_holdsTold_129 (Nat.le_of_ble_eq_true rfl) rfl (by omega) (fun q129 => ?_) (by omega) (by omega)
      have v129 : m 8 (((7 * t) + 5)) = (tfa w t 5) := (rmT hM (t := t) (f := 5) (by omega) (by omega) (by omega) (by omega))
      rw [v129] at q129
      refine jr_ti v129 ?_
      refine jr_ineg F dX8_holdsTold_130 ?_
      refine jr_aload_n F dX8_holdsTold_131 rfl ?_
      refine jr_getR (t := 8) F dX8_holdsTold_132 fg_X8_31 (Nat.le_of_ble_eq_true rfl) rfl rfl ?_
      refine jr_bipush F dX8_holdsTold_135 (by decide) ?_
      refine jr_iload_n F dX8_holdsTold_137 rfl ?_
      refine jr_imul F dX8_holdsTold_138 ?_
      refine jr_iconst F dX8_holdsTold_139 ?_
      refine jr_iadd F dX8_holdsTold_140 ?_
      refine jr_iald F dX8_holdsTold_141 (Nat.le_of_ble_eq_true rfl) rfl (by omega) (fun q141 => ?_) (by omega) (by omega)
      have v141 : m 8 (((7 * t) + 5)) = (tfa w t 5) := (rmT hM (t := t) (f := 5) (by omega) (by omega) (by omega) (by omega))
      rw [v141] at q141
      refine jr_ti v141 ?_
      refine jr_sI F dX8_holdsTold_142 cs_X8_88 (c_X8_lies (by omega) (by omega) (by omega)) rfl (Nat.le_of_ble_eq_true rfl) (Nat.le_of_ble_eq_true rfl) rfl (Nat.le_of_ble_eq_true rfl) ?_
      first | exact jr_zret F dX8_holdsTold_145 (pI_of (bi_t (by unfold holdw latw begw; omega)).symm rfl) (by omega) | exact jr_zret F dX8_holdsTold_145 (pI_of (bi_f (by unfold holdw latw begw; omega)).symm rfl) (by omega) | exact jr_zret F dX8_holdsTold_145 (pI_of (bi_c (by unfold holdw latw begw; omega)) rfl) (bi_01 _)
    · refine jr_tsIn (tgt := 146) F (1) dX8_holdsTold_90 c90 (by omega) (by omega) rfl (by decide) (by omega) ?_
      refine jr_iload_n F dX8_holdsTold_146 rfl ?_
      refine jr_aload_n F dX8_holdsTold_147 rfl ?_
      refine jr_getR (t := 9) F dX8_holdsTold_148 fg_X8_34 (Nat.le_of_ble_eq_true rfl) rfl rfl ?_
      refine jr_iconst F dX8_holdsTold_151 ?_
      refine jr_iload_n F dX8_holdsTold_152 rfl ?_
      refine jr_imul F dX8_holdsTold_153 ?_
      refine jr_iald F dX8_holdsTold_154 (Nat.le_of_ble_eq_true rfl) rfl (by omega) (fun q154 => ?_) (by omega) (by omega)
      have v154 : m 9 ((3 * t)) = (tyr w t 0) := (rmY0 hM (t := t) (by omega) (by omega))
      rw [v154] at q154
      refine jr_ti v154 ?_
      refine jr_icmp_eq (tgt := 186) F dX8_holdsTold_155 (by decide) (fun c155 => ?_) (fun c155 => ?_) (by omega) (by omega)
      · skip
        refine jr_iconst F dX8_holdsTold_186 ?_
        refine jr_goto (tgt := 191) F dX8_holdsTold_187 (by decide) ?_
        first | exact jr_zret F dX8_holdsTold_191 (pI_of (bi_t (by unfold holdw latw begw; omega)).symm rfl) (by omega) | exact jr_zret F dX8_holdsTold_191 (pI_of (bi_f (by unfold holdw latw begw; omega)).symm rfl) (by omega) | exact jr_zret F dX8_holdsTold_191 (pI_of (bi_c (by unfold holdw latw begw; omega)) rfl) (bi_01 _)
      · skip
        refine jr_iload_n F dX8_holdsTold_158 rfl ?_
        refine jr_aload_n F dX8_holdsTold_159 rfl ?_
        refine jr_getR (t := 9) F dX8_holdsTold_160 fg_X8_34 (Nat.le_of_ble_eq_true rfl) rfl rfl ?_
        refine jr_iconst F dX8_holdsTold_163 ?_
        refine jr_iload_n F dX8_holdsTold_164 rfl ?_
        refine jr_imul F dX8_holdsTold_165 ?_
        refine jr_iconst F dX8_holdsTold_166 ?_
        refine jr_iadd F dX8_holdsTold_167 ?_
        refine jr_iald F dX8_holdsTold_168 (Nat.le_of_ble_eq_true rfl) rfl (by omega) (fun q168 => ?_) (by omega) (by omega)
        have v168 : m 9 (((3 * t) + 1)) = (tyr w t 1) := (rmY hM (t := t) (f := 1) (by omega) (by omega) (by omega) (by omega))
        rw [v168] at q168
        refine jr_ti v168 ?_
        refine jr_icmp_eq (tgt := 186) F dX8_holdsTold_169 (by decide) (fun c169 => ?_) (fun c169 => ?_) (by omega) (by omega)
        · skip
          refine jr_iconst F dX8_holdsTold_186 ?_
          refine jr_goto (tgt := 191) F dX8_holdsTold_187 (by decide) ?_
          first | exact jr_zret F dX8_holdsTold_191 (pI_of (bi_t (by unfold holdw latw begw; omega)).symm rfl) (by omega) | exact jr_zret F dX8_holdsTold_191 (pI_of (bi_f (by unfold holdw latw begw; omega)).symm rfl) (by omega) | exact jr_zret F dX8_holdsTold_191 (pI_of (bi_c (by unfold holdw latw begw; omega)) rfl) (bi_01 _)
        · skip
          refine jr_iload_n F dX8_holdsTold_172 rfl ?_
          refine jr_aload_n F dX8_holdsTold_173 rfl ?_
          refine jr_getR (t := 9) F dX8_holdsTold_174 fg_X8_34 (Nat.le_of_ble_eq_true rfl) rfl rfl ?_
          refine jr_iconst F dX8_holdsTold_177 ?_
          refine jr_iload_n F dX8_holdsTold_178 rfl ?_
          refine jr_imul F dX8_holdsTold_179 ?_
          refine jr_iconst F dX8_holdsTold_180 ?_
          refine jr_iadd F dX8_holdsTold_181 ?_
          refine jr_iald F dX8_holdsTold_182 (Nat.le_of_ble_eq_true rfl) rfl (by omega) (fun q182 => ?_) (by omega) (by omega)
          have v182 : m 9 (((3 * t) + 2)) = (tyr w t 2) := (rmY hM (t := t) (f := 2) (by omega) (by omega) (by omega) (by omega))
          rw [v182] at q182
          refine jr_ti v182 ?_
          refine jr_icmp_ne (tgt := 190) F dX8_holdsTold_183 (by decide) (fun c183 => ?_) (fun c183 => ?_) (by omega) (by omega)
          · skip
            refine jr_iconst F dX8_holdsTold_190 ?_
            first | exact jr_zret F dX8_holdsTold_191 (pI_of (bi_t (by unfold holdw latw begw; omega)).symm rfl) (by omega) | exact jr_zret F dX8_holdsTold_191 (pI_of (bi_f (by unfold holdw latw begw; omega)).symm rfl) (by omega) | exact jr_zret F dX8_holdsTold_191 (pI_of (bi_c (by unfold holdw latw begw; omega)) rfl) (bi_01 _)
          · skip
            refine jr_iconst F dX8_holdsTold_186 ?_
            refine jr_goto (tgt := 191) F dX8_holdsTold_187 (by decide) ?_
            first | exact jr_zret F dX8_holdsTold_191 (pI_of (bi_t (by unfold holdw latw begw; omega)).symm rfl) (by omega) | exact jr_zret F dX8_holdsTold_191 (pI_of (bi_f (by unfold holdw latw begw; omega)).symm rfl) (by omega) | exact jr_zret F dX8_holdsTold_191 (pI_of (bi_c (by unfold holdw latw begw; omega)) rfl) (bi_01 _)
    · refine jr_tsIn (tgt := 192) F (2) dX8_holdsTold_90 c90 (by omega) (by omega) rfl (by decide) (by omega) ?_
      refine jr_iload_n F dX8_holdsTold_192 rfl ?_
      refine jr_aload_n F dX8_holdsTold_193 rfl ?_
      refine jr_getR (t := 9) F dX8_holdsTold_194 fg_X8_34 (Nat.le_of_ble_eq_true rfl) rfl rfl ?_
      refine jr_iconst F dX8_holdsTold_197 ?_
      refine jr_iload_n F dX8_holdsTold_198 rfl ?_
      refine jr_imul F dX8_holdsTold_199 ?_
      refine jr_iald F dX8_holdsTold_200 (Nat.le_of_ble_eq_true rfl) rfl (by omega) (fun q200 => ?_) (by omega) (by omega)
      have v200 : m 9 ((3 * t)) = (tyr w t 0) := (rmY0 hM (t := t) (by omega) (by omega))
      rw [v200] at q200
      refine jr_ti v200 ?_
      refine jr_icmp_lt (tgt := 208) F dX8_holdsTold_201 (by decide) (fun c201 => ?_) (fun c201 => ?_) (by omega) (by omega)
      · skip
        refine jr_iconst F dX8_holdsTold_208 ?_
        first | exact jr_zret F dX8_holdsTold_209 (pI_of (bi_t (by unfold holdw latw begw; omega)).symm rfl) (by omega) | exact jr_zret F dX8_holdsTold_209 (pI_of (bi_f (by unfold holdw latw begw; omega)).symm rfl) (by omega) | exact jr_zret F dX8_holdsTold_209 (pI_of (bi_c (by unfold holdw latw begw; omega)) rfl) (bi_01 _)
      · skip
        refine jr_iconst F dX8_holdsTold_204 ?_
        refine jr_goto (tgt := 209) F dX8_holdsTold_205 (by decide) ?_
        first | exact jr_zret F dX8_holdsTold_209 (pI_of (bi_t (by unfold holdw latw begw; omega)).symm rfl) (by omega) | exact jr_zret F dX8_holdsTold_209 (pI_of (bi_f (by unfold holdw latw begw; omega)).symm rfl) (by omega) | exact jr_zret F dX8_holdsTold_209 (pI_of (bi_c (by unfold holdw latw begw; omega)) rfl) (bi_01 _)
    · refine jr_tsOut (tgt := 210) F dX8_holdsTold_90 c90 (by decide) (by omega) ?_
      refine jr_iload_n F dX8_holdsTold_210 rfl ?_
      refine jr_iload_n F dX8_holdsTold_211 rfl ?_
      refine jr_icmp_gt (tgt := 219) F dX8_holdsTold_212 (by decide) (fun c212 => ?_) (fun c212 => ?_) (by omega) (by omega)
      · skip
        refine jr_iconst F dX8_holdsTold_219 ?_
        first | exact jr_zret F dX8_holdsTold_220 (pI_of (bi_t (by unfold holdw latw begw; omega)).symm rfl) (by omega) | exact jr_zret F dX8_holdsTold_220 (pI_of (bi_f (by unfold holdw latw begw; omega)).symm rfl) (by omega) | exact jr_zret F dX8_holdsTold_220 (pI_of (bi_c (by unfold holdw latw begw; omega)) rfl) (bi_01 _)
      · skip
        refine jr_iconst F dX8_holdsTold_215 ?_
        refine jr_goto (tgt := 220) F dX8_holdsTold_216 (by decide) ?_
        first | exact jr_zret F dX8_holdsTold_220 (pI_of (bi_t (by unfold holdw latw begw; omega)).symm rfl) (by omega) | exact jr_zret F dX8_holdsTold_220 (pI_of (bi_f (by unfold holdw latw begw; omega)).symm rfl) (by omega) | exact jr_zret F dX8_holdsTold_220 (pI_of (bi_c (by unfold holdw latw begw; omega)) rfl) (bi_01 _)

set_option maxRecDepth 100000 in
set_option maxHeartbeats 4000000 in
theorem c_X8_howMany {B : Bs} {w m : Wd} {k : Int} (hM : RM w m) (hk : inR k) : Sp (GM B) 0 yX8_howMany cX8_howMany 2 (Option.some FieldType.int) [.ref (ga (GM B) (0)), iv (k)] m (pI m (couw w k)) := by
  refine Sp.of (by decide) (Nat.le_of_ble_eq_true rfl) (fun X F => ?_)
  show Jw (GM B) X _ 0 [some (.ref (ga (GM B) (0))), some (iv (k))] [] m
  refine jr_iload_n F dX8_howMany_0 rfl ?_
  rcases (show k = 0 ∨ k = 1 ∨ k = 2 ∨ k = 3 ∨ k = 4 ∨ k = 5 ∨ k = 6 ∨ (k < 0 ∨ 6 < k) by omega) with c1 | c1 | c1 | c1 | c1 | c1 | c1 | c1
  · refine jr_tsIn (tgt := 44) F (0) dX8_howMany_1 c1 (by omega) (by omega) rfl (by decide) (by omega) ?_
    refine jr_aload_n F dX8_howMany_44 rfl ?_
    refine jr_getIx F (w 1 3) dX8_howMany_45 fg_X8_84 (Nat.le_of_ble_eq_true rfl) rfl rfl ((show m 0 0 = (w 1 3) from rn0 hM)) (fun q45 => ?_)
    exact jr_iret F dX8_howMany_48 (pI_of (by unfold couw; (repeat' split) <;> first | rfl | omega) rfl)
  · refine jr_tsIn (tgt := 49) F (1) dX8_howMany_1 c1 (by omega) (by omega) rfl (by decide) (by omega) ?_
    refine jr_aload_n F dX8_howMany_49 rfl ?_
    refine jr_getIx F (w 5 3) dX8_howMany_50 fg_X8_122 (Nat.le_of_ble_eq_true rfl) rfl rfl ((show m 0 8 = (w 5 3) from rn8 hM)) (fun q50 => ?_)
    exact jr_iret F dX8_howMany_53 (pI_of (by unfold couw; (repeat' split) <;> first | rfl | omega) rfl)
  · refine jr_tsIn (tgt := 54) F (2) dX8_howMany_1 c1 (by omega) (by omega) rfl (by decide) (by omega) ?_
    refine jr_aload_n F dX8_howMany_54 rfl ?_
    refine jr_getR (t := 11) F dX8_howMany_55 fg_X8_41 (Nat.le_of_ble_eq_true rfl) rfl rfl ?_
    refine jr_iconst F dX8_howMany_58 ?_
    refine jr_iald F dX8_howMany_59 (Nat.le_of_ble_eq_true rfl) rfl (by omega) (fun q59 => ?_) (by omega) (by omega)
    refine jr_ti (b := (w 11 2)) hM.2.2.2.1.1.1 ?_
    exact jr_iret F dX8_howMany_60 (pI_of (by unfold couw; (repeat' split) <;> first | rfl | omega) rfl)
  · refine jr_tsIn (tgt := 61) F (3) dX8_howMany_1 c1 (by omega) (by omega) rfl (by decide) (by omega) ?_
    refine jr_aload_n F dX8_howMany_61 rfl ?_
    refine jr_getR (t := 11) F dX8_howMany_62 fg_X8_41 (Nat.le_of_ble_eq_true rfl) rfl rfl ?_
    refine jr_iconst F dX8_howMany_65 ?_
    refine jr_iald F dX8_howMany_66 (Nat.le_of_ble_eq_true rfl) rfl (by omega) (fun q66 => ?_) (by omega) (by omega)
    refine jr_ti (b := (w 14 2)) hM.2.2.2.1.1.2 ?_
    exact jr_iret F dX8_howMany_67 (pI_of (by unfold couw; (repeat' split) <;> first | rfl | omega) rfl)
  · refine jr_tsIn (tgt := 68) F (4) dX8_howMany_1 c1 (by omega) (by omega) rfl (by decide) (by omega) ?_
    refine jr_aload_n F dX8_howMany_68 rfl ?_
    refine jr_getIx F (w 18 1) dX8_howMany_69 fg_X8_140 (Nat.le_of_ble_eq_true rfl) rfl rfl ((show m 0 11 = (w 18 1) from rn11 hM)) (fun q69 => ?_)
    exact jr_iret F dX8_howMany_72 (pI_of (by unfold couw; (repeat' split) <;> first | rfl | omega) rfl)
  · refine jr_tsIn (tgt := 73) F (5) dX8_howMany_1 c1 (by omega) (by omega) rfl (by decide) (by omega) ?_
    refine jr_aload_n F dX8_howMany_73 rfl ?_
    refine jr_getIx F (w 8 3) dX8_howMany_74 fg_X8_237 (Nat.le_of_ble_eq_true rfl) rfl rfl ((show m 0 16 = (w 8 3) from rn16 hM)) (fun q74 => ?_)
    exact jr_iret F dX8_howMany_77 (pI_of (by unfold couw; (repeat' split) <;> first | rfl | omega) rfl)
  · refine jr_tsIn (tgt := 78) F (6) dX8_howMany_1 c1 (by omega) (by omega) rfl (by decide) (by omega) ?_
    refine jr_aload_n F dX8_howMany_78 rfl ?_
    refine jr_getIx F (w 0 8) dX8_howMany_79 fg_X8_225 (Nat.le_of_ble_eq_true rfl) rfl rfl ((show m 0 18 = (w 0 8) from rn18 hM)) (fun q79 => ?_)
    exact jr_iret F dX8_howMany_82 (pI_of (by unfold couw; (repeat' split) <;> first | rfl | omega) rfl)
  · refine jr_tsOut (tgt := 83) F dX8_howMany_1 c1 (by decide) (by omega) ?_
    refine jr_bipush F dX8_howMany_83 (by decide) ?_
    exact jr_iret F dX8_howMany_85 (pI_of (by unfold couw; (repeat' split) <;> first | rfl | omega) rfl)

set_option maxRecDepth 100000 in
set_option maxHeartbeats 4000000 in
theorem c_X8_count {B : Bs} {w m : Wd} {k : Int} (hM : RM w m) (hk : inR k) : Sp (GM B) 1 yX8_count cX8_count 2 (Option.some FieldType.int) [.ref (ga (GM B) (0)), iv (k)] m (pI m (couw w k)) := by
  refine Sp.of (by decide) (Nat.le_of_ble_eq_true rfl) (fun X F => ?_)
  show Jw (GM B) X _ 0 [some (.ref (ga (GM B) (0))), some (iv (k))] [] m
  refine jr_aload_n F dX8_count_0 rfl ?_
  refine jr_iload_n F dX8_count_1 rfl ?_
  refine jr_vI F dX8_count_2 cv_X8_249 (c_X8_howMany hM (by omega)) (Nat.le_of_ble_eq_true rfl) rfl rfl rfl rfl (Nat.le_of_ble_eq_true rfl) (Nat.le_of_ble_eq_true rfl) rfl (Nat.le_of_ble_eq_true rfl) ?_
  exact jr_iret F dX8_count_5 (pI_of (by first | rfl | omega) rfl)

