def inb (b t : Int) : Prop := b.toNat.testBit t.toNat = true
noncomputable def cb (b t : Int) : Int := bi (inb b t)
def tst (b t : Int) : Int := ((b.toNat &&& 2 ^ t.toNat : Nat) : Int)
theorem b_tst {b t : Int} (hb : 0 ≤ b ∧ b ≤ 2147483647) (ht : 0 ≤ t ∧ t ≤ 30) : Int32.ofInt b &&& (Int32.ofInt 1 <<< (Int32.ofInt t &&& 31)) = Int32.ofInt (tst b t) := by
  have h : (2 : Nat) ^ t.toNat ≤ 2 ^ 30 := Nat.pow_le_pow_right (by omega) (by omega)
  rw [b_shl1 ht]
  unfold tst
  generalize (2 : Nat) ^ t.toNat = p at h ⊢
  rw [b_and hb (by omega), Int.toNat_natCast]
theorem tst_0 {b t : Int} : tst b t = 0 ↔ ¬ inb b t := by
  unfold tst inb
  rw [← and_pow]
  omega
theorem tst_R {b t : Int} (hb : 0 ≤ b) : 0 ≤ tst b t ∧ tst b t ≤ b := by
  have : b.toNat &&& 2 ^ t.toNat ≤ b.toNat := Nat.and_le_left
  unfold tst; omega
theorem cell_tfa {w u : Wd} (h : u 6 = w 6) : tfa u = tfa w := by funext t f; unfold tfa; rw [rd_c h]
theorem cell_tyr {w u : Wd} (h : u 7 = w 7) : tyr u = tyr w := by funext t f; unfold tyr; rw [rd_c h]
theorem cell_beg {w u : Wd} (h6 : u 6 = w 6) (h7 : u 7 = w 7) : begw u = begw w := by funext t f; unfold begw; rw [cell_tfa h6, cell_tyr h7]
theorem cell_tie {w u : Wd} (h6 : u 6 = w 6) (h7 : u 7 = w 7) : tieC u = tieC w := by funext t v; unfold tieC tsh; rw [cell_tfa h6, cell_beg h6 h7]
theorem cell_smT {w u : Wd} (h6 : u 6 = w 6) (h7 : u 7 = w 7) {t : Int} (h : smT w t) : smT u t := by unfold smT; rw [cell_tfa h6, cell_tyr h7]; exact h
theorem cell_fa {w u : Wd} (h : u 2 = w 2) : fa u = fa w := by funext t f; unfold fa; rw [rd_c h]
/-- ties as they may be told: whose reigns there are -/
def TI (w : Wd) : Prop := (0 ≤ w 5 3 ∧ w 5 3 ≤ 8) ∧ ∀ t : Int, 0 ≤ t → t < w 5 3 → smT w t ∧ (0 ≤ tfa w t 0 ∧ tfa w t 0 ≤ 3) ∧ (0 ≤ tfa w t 1 ∧ tfa w t 1 < w 1 3) ∧ ((tfa w t 0 = 1 ∨ tfa w t 0 = 2) ∨ (0 ≤ tfa w t 3 ∧ tfa w t 3 < w 1 3))
/-- two skies at most -/
def SK2 (w : Wd) : Prop := ∀ a b c : Int, 0 ≤ a → a < b → b < c → c < w 5 3 → tfa w a 0 = 1 → tfa w b 0 = 1 → tfa w c 0 = 1 → False
def CT (w : Wd) (b : Int) (C : (Int → Int) → Prop) (t : Int) (v : Int → Int) : Prop := C v ∧ ∀ t' : Int, 0 ≤ t' → t' < t → inb b t' → tieC w t' v
theorem CT_y {w : Wd} {b : Int} {C : (Int → Int) → Prop} {t : Int} (h0 : 0 ≤ t) (h : inb b t) (v : Int → Int) : CT w b C (t + 1) v ↔ CT w b C t v ∧ tieC w t v := by
  constructor
  · intro q
    exact ⟨⟨q.1, fun t' a0 a1 hb => q.2 t' a0 (by omega) hb⟩, q.2 t h0 (by omega) h⟩
  · rintro ⟨q, z⟩
    refine ⟨q.1, fun t' a0 a1 hb => ?_⟩
    by_cases e : t' = t
    · rw [e]; exact z
    · exact q.2 t' a0 (by omega) hb
theorem CT_n {w : Wd} {b : Int} {C : (Int → Int) → Prop} {t : Int} (h : ¬ inb b t) (v : Int → Int) : CT w b C (t + 1) v ↔ CT w b C t v := by
  constructor
  · intro q
    exact ⟨q.1, fun t' a0 a1 hb => q.2 t' a0 (by omega) hb⟩
  · intro q
    refine ⟨q.1, fun t' a0 a1 hb => ?_⟩
    by_cases e : t' = t
    · rw [e] at hb; exact absurd hb h
    · exact q.2 t' a0 (by omega) hb
theorem CT_le {w : Wd} {b : Int} {C : (Int → Int) → Prop} {t n : Int} (h : t ≤ n) (v : Int → Int) (q : CT w b C n v) : CT w b C t v := ⟨q.1, fun t' a0 a1 hb => q.2 t' a0 (by omega) hb⟩
/-- the skies laid so far: the last, and the one ahead of it -/
def skI (w : Wd) (b t fs ss : Int) : Prop := (fs = -1 → ss = -1) ∧ (¬ fs = -1 → 0 ≤ fs ∧ fs < t ∧ inb b fs ∧ tfa w fs 0 = 1) ∧ (¬ ss = -1 → 0 ≤ ss ∧ ss < fs ∧ inb b ss ∧ tfa w ss 0 = 1) ∧ ∀ t' : Int, 0 ≤ t' → t' < t → inb b t' → tfa w t' 0 = 1 → t' = fs ∨ t' = ss
theorem skI_n {w : Wd} {b t fs ss : Int} (h : skI w b t fs ss) (q : ¬ (inb b t ∧ tfa w t 0 = 1)) : skI w b (t + 1) fs ss := by
  obtain ⟨h1, h2, h3, h4⟩ := h
  refine ⟨h1, fun z => ?_, h3, fun t' a0 a1 hb hs => ?_⟩
  · have := h2 z; exact ⟨this.1, by omega, this.2.2⟩
  · by_cases e : t' = t
    · rw [e] at hb hs; exact absurd ⟨hb, hs⟩ q
    · exact h4 t' a0 (by omega) hb hs
theorem skI_y {w : Wd} {b t fs ss : Int} (hk : SK2 w) (h : skI w b t fs ss) (t0 : 0 ≤ t) (t1 : t < w 5 3) (hb : inb b t) (hs : tfa w t 0 = 1) : skI w b (t + 1) t fs := by
  obtain ⟨h1, h2, h3, h4⟩ := h
  refine ⟨fun q => by omega, fun _ => ⟨t0, by omega, hb, hs⟩, fun z => ?_, fun t' a0 a1 hb' hs' => ?_⟩
  · have := h2 z; exact this
  · by_cases e : t' = t
    · exact Or.inl e
    · have q := h4 t' a0 (by omega) hb' hs'
      by_cases z : ss = -1
      · right; omega
      · have y := h3 z
        have x := h2 (by omega)
        exact (hk ss fs t y.1 y.2.1 x.2.1 t1 y.2.2.2 x.2.2.2 hs).elim
def ltR (w : Wd) (b : Int) (C : (Int → Int) → Prop) (u : Wd) : Prop := u 23 1 = w 21 1 ∧ rep (w 21 1) (mat u 24) (CT w b C (w 5 3)) ∧ skI w b (w 5 3) (u 20 15) (u 20 16)
def ltF (w u : Wd) : Prop := (∀ k, k ≠ 20 → k ≠ 23 → k ≠ 24 → u k = w k) ∧ ∀ i, i ≠ 15 → i ≠ 16 → u 20 i = w 20 i
theorem ltF_s {w u x : Wd} {t : Int} (hF : ltF w u) (hx : ∀ k, k ≠ 20 → k ≠ 24 → x k = u k) (k15 : tfa w t 0 = 1 → x 20 = (up (up u 20 16 (u 20 15)) 20 15 t) 20) (k16 : ¬ tfa w t 0 = 1 → x 20 = u 20) : ltF w x := by
  refine ⟨fun k a b c => (hx k a c).trans (hF.1 k a b c), fun i h15 h16 => ?_⟩
  by_cases q : tfa w t 0 = 1
  · rw [k15 q, up_ne (by omega), up_ne (by omega)]; exact hF.2 i h15 h16
  · rw [k16 q]; exact hF.2 i h15 h16
theorem skI_s {w u x : Wd} {b t : Int} (hk : SK2 w) (h : skI w b t (u 20 15) (u 20 16)) (t0 : 0 ≤ t) (t1 : t < w 5 3) (hb : inb b t) (k15 : tfa w t 0 = 1 → x 20 = (up (up u 20 16 (u 20 15)) 20 15 t) 20) (k16 : ¬ tfa w t 0 = 1 → x 20 = u 20) : skI w b (t + 1) (x 20 15) (x 20 16) := by
  by_cases q : tfa w t 0 = 1
  · rw [k15 q]; exact skI_y hk h t0 t1 hb q
  · rw [k16 q]; exact skI_n h (fun z => q z.2)

set_option maxRecDepth 100000 in
set_option maxHeartbeats 4000000 in
theorem c_X1_layTies_20 {B : Bs} {w : Wd} {b : Int} {C : (Int → Int) → Prop} (hT : TI w) (hK2 : SK2 w) (hb : 0 ≤ b ∧ b ≤ 1000) (hn : w 21 1 = w 1 3 + 1) (h10 : 0 ≤ w 1 3 ∧ w 1 3 ≤ 10) (hC : rep (w 21 1) (mat w 22) C) : Sp (GX B) 4 yX1_layTies cX1_layTies 3 (Option.some FieldType.boolean) [.ref (ga (GX B) (20)), iv (b)] w (pB (∃ v, CT w b C (w 5 3) v) (fun u => ltF w u ∧ ((∃ v, CT w b C (w 5 3) v) → ltR w b C u))) := by
  refine Sp.of (by decide) (Nat.le_of_ble_eq_true rfl) (fun X F => ?_)
  have nT := hT.1
  show Jw (GX B) X _ 0 [some (.ref (ga (GX B) (20))), some (iv (b))] [] w
  refine jr_aload_n F dX1_layTies_0 rfl ?_
  refine jr_getR (t := 23) F dX1_layTies_1 fg_X1_29 (Nat.le_of_ble_eq_true rfl) rfl rfl ?_
  refine jr_aload_n F dX1_layTies_4 rfl ?_
  refine jr_getR (t := 21) F dX1_layTies_5 fg_X1_25 (Nat.le_of_ble_eq_true rfl) rfl rfl ?_
  refine jr_vVx F dX1_layTies_8 cv_X1_125 (c_X0_copy_23) (Nat.le_of_ble_eq_true rfl) rfl rfl rfl rfl (Nat.le_of_ble_eq_true rfl) (Nat.le_of_ble_eq_true rfl) rfl (Nat.le_of_ble_eq_true rfl) (fun w8 e8 => ?_)
  refine jr_aload_n F dX1_layTies_11 rfl ?_
  refine jr_iconst F dX1_layTies_12 ?_
  refine jr_putIx F dX1_layTies_13 fp_X1_64 (Nat.le_of_ble_eq_true rfl) rfl rfl (by omega) (fun w13 e13 => ?_)
  refine jr_aload_n F dX1_layTies_16 rfl ?_
  refine jr_iconst F dX1_layTies_17 ?_
  refine jr_putIx F dX1_layTies_18 fp_X1_67 (Nat.le_of_ble_eq_true rfl) rfl rfl (by omega) (fun w18 e18 => ?_)
  refine jr_iconst F dX1_layTies_21 ?_
  refine jr_istore_n F dX1_layTies_22 (Nat.le_of_ble_eq_true rfl) rfl ?_
  have L23 : ∀ (fuel : Nat) (u : Wd) (t : Int), (w 5 3 - t).toNat < fuel → (0 ≤ t) → (t ≤ w 5 3) → (ltF w u) → (u 23 1 = w 21 1) → (rep (w 21 1) (mat u 24) (CT w b C t)) → (skI w b t (u 20 15) (u 20 16)) → Jw (GX B) X (pB (∃ v, CT w b C (w 5 3) v) (fun u => ltF w u ∧ ((∃ v, CT w b C (w 5 3) v) → ltR w b C u))) 23 [some (.ref (ga (GX B) 20)), some (iv b), some (iv t)] [] u := by
    intro fuel
    induction fuel with
    | zero => intro u t hfuel; exact absurd hfuel (Nat.not_lt_zero _)
    | succ fuel ih23 =>
        intro u t hfuel t0 t1 hF hN hR hK
        have u5 : u 5 = w 5 := hF.1 5 (by decide) (by decide) (by decide)
        have u6 : u 6 = w 6 := hF.1 6 (by decide) (by decide) (by decide)
        have u7 : u 7 = w 7 := hF.1 7 (by decide) (by decide) (by decide)
        have tR := tst_R (b := b) (t := t) hb.1
        refine jr_iload_n F dX1_layTies_23 rfl ?_
        refine jr_aload_n F dX1_layTies_24 rfl ?_
        refine jr_getR (t := 5) F dX1_layTies_25 fg_X1_15 (Nat.le_of_ble_eq_true rfl) rfl rfl ?_
        refine jr_vI F dX1_layTies_28 cv_X1_136 (c_X6_size_5) (Nat.le_of_ble_eq_true rfl) rfl rfl rfl rfl (Nat.le_of_ble_eq_true rfl) (Nat.le_of_ble_eq_true rfl) rfl (Nat.le_of_ble_eq_true rfl) ?_
        refine jr_ti (b := (w 5 3)) (congrFun u5 3) ?_
        refine jr_icmp_ge (tgt := 58) F dX1_layTies_31 (by decide) (fun c31 => ?_) (fun c31 => ?_) (by omega) (by omega)
        · skip
          refine jr_iconst F dX1_layTies_58 ?_
          obtain rfl : t = w 5 3 := by omega
          exact jr_zret F dX1_layTies_59 (pB_of (bi_t ⟨_, (hR.2 _).mp (gok_row hR.1 (i := 0) (by omega) (by omega))⟩).symm ⟨hF, fun _ => ⟨hN, hR, hK⟩⟩) (by omega)
        · skip
          refine jr_iload_n F dX1_layTies_34 rfl ?_
          refine jr_iconst F dX1_layTies_35 ?_
          refine jr_iload_n F dX1_layTies_36 rfl ?_
          refine jr_ishl F dX1_layTies_37 ?_
          refine jr_iand F dX1_layTies_38 ?_
          refine jr_top (z := tst b t) F (b_tst (by omega) (by omega)) ?_
          refine jr_if_eq (tgt := 52) F dX1_layTies_39 (by decide) (fun c39 => ?_) (fun c39 => ?_) (by omega)
          · skip
            have nb : ¬ inb b t := tst_0.mp c39
            refine jr_iinc F dX1_layTies_52 rfl (Nat.le_of_ble_eq_true rfl) rfl ?_
            refine jr_goto (tgt := 23) F dX1_layTies_55 (by decide) ?_
            exact jr_sub (ih23 _ (t + 1) (by omega) (by omega) (by omega) hF hN (rep_c hR (fun v => (CT_n nb v).symm)) (skI_n hK (fun q => nb q.1))) ⟨rfl, rfl, rfl, trivial⟩
          · skip
            rw [tst_0] at c39
            have ib : inb b t := Classical.not_not.mp c39
            have tt := hT.2 t t0 (by omega)
            have ff : tfa u = tfa w := cell_tfa u6
            have tq := tt.2.1
            have ta := tt.2.2.1
            have tb := tt.2.2.2
            refine jr_aload_n F dX1_layTies_42 rfl ?_
            refine jr_iload_n F dX1_layTies_43 rfl ?_
            refine jr_vB F dX1_layTies_44 cv_X1_139 (c_X1_layTie_20 (cell_smT u6 u7 tt.1) (by rw [hN]; omega) (by rw [hN, ff]; omega) (by rw [hN, ff]; omega) (by rw [hN]; exact hR)) (Nat.le_of_ble_eq_true rfl) rfl rfl rfl rfl (Nat.le_of_ble_eq_true rfl) (Nat.le_of_ble_eq_true rfl) rfl (Nat.le_of_ble_eq_true rfl) (fun w44 h44 => ?_)
            refine jr_ifne_b (tgt := 52) F dX1_layTies_47 (by decide) (fun c47 => ?_) (fun c47 => ?_)
            · skip
              rw [cell_tie u6 u7] at c47 h44
              have k15 := h44.2.1.1
              have k16 := h44.2.1.2
              rw [ff] at k15 k16
              have G1 : ltF w w44 := ltF_s hF h44.1 k15 k16
              have G2 : w44 23 1 = w 21 1 := by rw [h44.1 23 (by decide) (by decide)]; exact hN
              have G3 : rep (w 21 1) (mat w44 24) (CT w b C (t + 1)) := by have q := h44.2.2 c47; rw [hN] at q; exact rep_c q (fun v => (CT_y t0 ib v).symm)
              have G4 : skI w b (t + 1) (w44 20 15) (w44 20 16) := skI_s hK2 hK t0 (by omega) ib k15 k16
              refine jr_iinc F dX1_layTies_52 rfl (Nat.le_of_ble_eq_true rfl) rfl ?_
              refine jr_goto (tgt := 23) F dX1_layTies_55 (by decide) ?_
              exact jr_sub (ih23 _ (t + 1) (by omega) (by omega) (by omega) G1 G2 G3 G4) ⟨rfl, rfl, rfl, trivial⟩
            · skip
              refine jr_iconst F dX1_layTies_50 ?_
              rw [cell_tie u6 u7] at c47 h44
              have k15 := h44.2.1.1
              have k16 := h44.2.1.2
              rw [ff] at k15 k16
              exact jr_zret F dX1_layTies_51 (pB_of (bi_f (fun ⟨v, q⟩ => c47 ⟨v, (CT_y t0 ib v).mp (CT_le (by omega) v q)⟩)).symm ⟨ltF_s hF h44.1 k15 k16, fun ⟨v, q⟩ => absurd ⟨v, (CT_y t0 ib v).mp (CT_le (by omega) v q)⟩ c47⟩) (by omega)
  exact jr_sub (L23 _ _ 0 (Nat.lt_succ_self _) (by omega) (by omega) ⟨fun k a b1 c1 => by subst e18; subst e13; subst e8; rw [up_cell a, up_cell a, cpA_c c1, up_cell b1], fun i h15 h16 => by subst e18; subst e13; subst e8; rw [up_ne (by omega), up_ne (by omega), cpA_c (by decide), up_cell (by decide)]⟩ (by subst e18; subst e13; subst e8; rfl) (by subst e18; subst e13; subst e8; exact rep_c (rep_m (fun x y x0 x1 y0 y1 => (cpA_mat x0 (by omega) y0 (by omega)).symm) hC) (fun v => ⟨fun q => ⟨q, fun t' a0 a1 _ => by omega⟩, fun q => q.1⟩)) (by subst e18; subst e13; subst e8; exact ⟨fun _ => rfl, fun q => absurd rfl q, fun q => absurd rfl q, fun t' a0 a1 _ _ => by omega⟩)) ⟨rfl, rfl, rfl, trivial⟩

