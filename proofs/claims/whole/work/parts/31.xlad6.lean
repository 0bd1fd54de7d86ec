def PS (w : Wd) (C : (Int → Int) → Prop) (fs ss i j : Int) (v : Int → Int) : Prop := C v ∧ ∃ a b : Int, (0 ≤ a ∧ a < skN fs) ∧ (0 ≤ b ∧ b < skN ss) ∧ (a < i ∨ (a = i ∧ b < j)) ∧ v (skP w fs) - v 0 = skB w fs a ∧ v (skP w ss) - v 0 = skB w ss b
def SY (w : Wd) (C : (Int → Int) → Prop) (fs ss : Int) (v : Int → Int) : Prop := C v ∧ (∃ a : Int, (0 ≤ a ∧ a < skN fs) ∧ v (skP w fs) - v 0 = skB w fs a) ∧ ∃ b : Int, (0 ≤ b ∧ b < skN ss) ∧ v (skP w ss) - v 0 = skB w ss b
theorem PS_0 {w : Wd} {C : (Int → Int) → Prop} {fs ss : Int} (v : Int → Int) : ¬ PS w C fs ss 0 0 v := fun ⟨_, a, b, h1, h2, h3, _⟩ => by omega
theorem PS_row {w : Wd} {C : (Int → Int) → Prop} {fs ss i j : Int} (hj : skN ss ≤ j) (v : Int → Int) : PS w C fs ss i j v ↔ PS w C fs ss (i + 1) 0 v := by
  constructor
  · rintro ⟨c, a, b, h1, h2, h3, h4⟩; exact ⟨c, a, b, h1, h2, by omega, h4⟩
  · rintro ⟨c, a, b, h1, h2, h3, h4⟩; exact ⟨c, a, b, h1, h2, by omega, h4⟩
theorem PS_s {w : Wd} {C : (Int → Int) → Prop} {fs ss i j : Int} (i0 : 0 ≤ i ∧ i < skN fs) (j0 : 0 ≤ j ∧ j < skN ss) (v : Int → Int) : PS w C fs ss i (j + 1) v ↔ PS w C fs ss i j v ∨ TP C (skP w fs) (skB w fs i) (skP w ss) (skB w ss j) v := by
  constructor
  · rintro ⟨c, a, b, h1, h2, h3, h4⟩
    by_cases e : a = i ∧ b = j
    · obtain ⟨rfl, rfl⟩ := e; exact Or.inr ⟨c, h4⟩
    · exact Or.inl ⟨c, a, b, h1, h2, by omega, h4⟩
  · rintro (⟨c, a, b, h1, h2, h3, h4⟩ | ⟨c, h4⟩)
    · exact ⟨c, a, b, h1, h2, by omega, h4⟩
    · exact ⟨c, i, j, i0, j0, by omega, h4⟩
theorem PS_e {w : Wd} {C : (Int → Int) → Prop} {fs ss i : Int} (hi : skN fs ≤ i) (v : Int → Int) : PS w C fs ss i 0 v ↔ SY w C fs ss v := by
  constructor
  · rintro ⟨c, a, b, h1, h2, h3, h4⟩; exact ⟨c, ⟨a, h1, h4.1⟩, ⟨b, h2, h4.2⟩⟩
  · rintro ⟨c, ⟨a, h1, h4⟩, ⟨b, h2, h5⟩⟩; exact ⟨c, a, b, h1, h2, by omega, h4, h5⟩
theorem PS_SY {w : Wd} {C : (Int → Int) → Prop} {fs ss i j : Int} (v : Int → Int) (h : PS w C fs ss i j v) : SY w C fs ss v := by
  obtain ⟨c, a, b, h1, h2, h3, h4⟩ := h
  exact ⟨c, ⟨a, h1, h4.1⟩, ⟨b, h2, h4.2⟩⟩
theorem Acc_n {w u : Wd} {al : Int} {S T : (Int → Int) → Prop} (h : Acc w u al S) (hT : ¬ ∃ v, T v) : Acc w u al (fun v => S v ∨ T v) := Acc_c (fun v => ⟨Or.inl, fun q => q.elim id (fun z => absurd ⟨v, z⟩ hT)⟩) h
theorem Acc_y {w u x z : Wd} {al n p a q b : Int} {S C : (Int → Int) → Prop} (h : Acc w u al S) (hw : wdR u p a q b (w 1 3) x) (hz : z = up x 20 17 1) (hC : rep n (mat u 26) C) (hn : n = w 1 3 + 1) (n0 : 0 < n) (hp : 0 ≤ p ∧ p < n) (hq : 0 ≤ q ∧ q < n) (ha : alw (mat u 26) p a q b) : Acc w z al (fun v => S v ∨ TP C p a q b v) := by
  have ex := (TP_ex hC n0 hp hq).mp ha
  subst hz
  refine ⟨Or.inr (up_self _ _ _ _), ⟨fun _ => by obtain ⟨v, e⟩ := ex; exact ⟨v, Or.inr e⟩, fun _ => up_self _ _ _ _⟩, fun hal _ r r0 r1 => ?_⟩
  have m := TP_mn hC n0 hp hq (r := r) (by omega) ha
  have e := hw.2.1 r r0 r1
  rw [up_cell (by decide), up_cell (by decide), e.1, e.2]
  unfold wlo whi
  by_cases f : u 20 17 = 1
  · have k := h.2.2 hal f r r0 r1
    rw [if_pos f, if_pos f]
    exact ⟨isMn_j k.1 m.1, isMx_j k.2 m.2⟩
  · rw [if_neg f, if_neg f]
    have no : ¬ ∃ v, S v := fun s => f (h.2.1.mpr s)
    exact ⟨isMn_c (fun v => ⟨Or.inr, fun q => q.elim (fun s => absurd ⟨v, s⟩ no) id⟩) m.1, isMx_c (fun v => ⟨Or.inr, fun q => q.elim (fun s => absurd ⟨v, s⟩ no) id⟩) m.2⟩
theorem Acc_u {w u x : Wd} {al : Int} {S : (Int → Int) → Prop} (h : Acc w u al S) (e17 : x 20 17 = u 20 17) (e30 : x 30 = u 30) (e31 : x 31 = u 31) : Acc w x al S := by unfold Acc; rw [e17, e30, e31]; exact h
def tyF (w u : Wd) : Prop := (∀ k, k ≠ 20 → k ≠ 30 → k ≠ 31 → u k = w k) ∧ ∀ i, i ≠ 17 → u 20 i = w 20 i
theorem cell_skP {w u : Wd} (h : u 6 = w 6) : skP u = skP w := by funext s; unfold skP; rw [cell_tfa h]
theorem cell_skB {w u : Wd} (h6 : u 6 = w 6) (h7 : u 7 = w 7) : skB u = skB w := by funext s j; unfold skB; rw [cell_beg h6 h7]
theorem skN_R (s : Int) : 1 ≤ skN s ∧ skN s ≤ 3 := by unfold skN; split <;> omega
/-- a sky that was laid, or none -/
def skO (w : Wd) (s : Int) : Prop := (-1 ≤ s ∧ s ≤ 7) ∧ (¬ s = -1 → smT w s ∧ 0 ≤ tfa w s 1 ∧ tfa w s 1 < w 1 3)
theorem skO_P {w : Wd} {s : Int} (h : skO w s) (h0 : 0 ≤ w 1 3) : 0 ≤ skP w s ∧ skP w s < w 1 3 + 1 := by
  unfold skP; split
  · omega
  · have := h.2 (by assumption); omega
theorem skO_B {w : Wd} {s j : Int} (h : skO w s) (j0 : 0 ≤ j) (j1 : j < skN s) : -2200 ≤ skB w s j ∧ skB w s j ≤ 2200 := by
  unfold skB; split
  · omega
  · next q =>
    have z := (h.2 q).1
    have f := z.2.2.1 2 (by omega) (by omega)
    unfold skN at j1
    rw [if_neg q] at j1
    have y := z.2.2.2 j j0 j1
    unfold begw; omega

set_option maxRecDepth 100000 in
set_option maxHeartbeats 4000000 in
theorem c_X1_tryYears_20 {B : Bs} {w : Wd} {al n : Int} {S C : (Int → Int) → Prop} (hal : 0 ≤ al ∧ al ≤ 1) (hn : n = w 1 3 + 1) (h10 : 0 ≤ w 1 3 ∧ w 1 3 ≤ 10) (hs1 : skO w (w 20 15)) (hs2 : skO w (w 20 16)) (hC : rep n (mat w 26) C) (hA : Acc w w al S) : Sp (GX B) 4 yX1_tryYears cX1_tryYears 6 (Option.none : Option FieldType) [.ref (ga (GX B) (20)), iv (al)] w (pU (fun u => tyF w u ∧ Acc w u al (fun v => S v ∨ SY w C (w 20 15) (w 20 16) v))) := by
  refine Sp.of (by decide) (Nat.le_of_ble_eq_true rfl) (fun X F => ?_)
  have N1 := skN_R (w 20 15)
  have N2 := skN_R (w 20 16)
  have P1 := skO_P hs1 h10.1
  have P2 := skO_P hs2 h10.1
  rw [← hn] at P1 P2
  have s11 := hs1.1
  have s21 := hs2.1
  show Jw (GX B) X _ 0 [some (.ref (ga (GX B) (20))), some (iv (al))] [] w
  refine jr_iconst F dX1_tryYears_0 ?_
  refine jr_istore_n F dX1_tryYears_1 (Nat.le_of_ble_eq_true rfl) rfl ?_
  have L2 : ∀ (fuel : Nat) (u : Wd) (i : Int), (skN (w 20 15) - i).toNat < fuel → (0 ≤ i) → (i ≤ skN (w 20 15)) → (tyF w u) → (Acc w u al (fun v => S v ∨ PS w C (w 20 15) (w 20 16) i 0 v)) → Jw (GX B) X (pU (fun u => tyF w u ∧ Acc w u al (fun v => S v ∨ SY w C (w 20 15) (w 20 16) v))) 2 [some (.ref (ga (GX B) 20)), some (iv al), some (iv i)] [] u := by
    intro fuel
    induction fuel with
    | zero => intro u i hfuel; exact absurd hfuel (Nat.not_lt_zero _)
    | succ fuel ih2 =>
        intro u i hfuel i0 i1 hF ha
        have u20 : ∀ z : Int, z ≠ 17 → u 20 z = w 20 z := hF.2
        have u6 : u 6 = w 6 := hF.1 6 (by decide) (by decide) (by decide)
        have u7 : u 7 = w 7 := hF.1 7 (by decide) (by decide) (by decide)
        refine jr_iload_n F dX1_tryYears_2 rfl ?_
        refine jr_aload_n F dX1_tryYears_3 rfl ?_
        refine jr_aload_n F dX1_tryYears_4 rfl ?_
        refine jr_getIx F (w 20 15) dX1_tryYears_5 fg_X1_64 (Nat.le_of_ble_eq_true rfl) rfl rfl (u20 15 (by decide)) (fun q5 => ?_)
        refine jr_vI F dX1_tryYears_8 cv_X1_157 (c_X1_yearsOf_20 (by omega)) (Nat.le_of_ble_eq_true rfl) rfl rfl rfl rfl (Nat.le_of_ble_eq_true rfl) (Nat.le_of_ble_eq_true rfl) rfl (Nat.le_of_ble_eq_true rfl) ?_
        refine jr_icmp_ge (tgt := 117) F dX1_tryYears_11 (by decide) (fun c11 => ?_) (fun c11 => ?_) (by omega) (by omega)
        · skip
          obtain rfl : i = skN (w 20 15) := by omega
          exact jr_vret F dX1_tryYears_117 ⟨rfl, hF, Acc_c (fun v => by rw [PS_e (Int.le_refl _)]) ha⟩
        · skip
          refine jr_aload_n F dX1_tryYears_14 rfl ?_
          refine jr_aload_n F dX1_tryYears_15 rfl ?_
          refine jr_getIx F (w 20 15) dX1_tryYears_16 fg_X1_64 (Nat.le_of_ble_eq_true rfl) rfl rfl (u20 15 (by decide)) (fun q16 => ?_)
          refine jr_iload_n F dX1_tryYears_19 rfl ?_
          refine jr_vI F dX1_tryYears_20 cv_X1_160 (c_X1_beginning_20 (by omega) (by omega)) (Nat.le_of_ble_eq_true rfl) rfl rfl rfl rfl (Nat.le_of_ble_eq_true rfl) (Nat.le_of_ble_eq_true rfl) rfl (Nat.le_of_ble_eq_true rfl) ?_
          refine jr_ti (b := (skB w (w 20 15) i)) (by rw [cell_skB u6 u7]) ?_
          refine jr_istore_n F dX1_tryYears_23 (Nat.le_of_ble_eq_true rfl) rfl ?_
          refine jr_iconst F dX1_tryYears_24 ?_
          refine jr_istore F dX1_tryYears_25 (Nat.le_of_ble_eq_true rfl) rfl ?_
          have L27 : ∀ (fuel : Nat) (x : Wd) (j : Int), (skN (w 20 16) - j).toNat < fuel → (0 ≤ j) → (j ≤ skN (w 20 16)) → (tyF w x) → (Acc w x al (fun v => S v ∨ PS w C (w 20 15) (w 20 16) i j v)) → Jw (GX B) X (pU (fun u => tyF w u ∧ Acc w u al (fun v => S v ∨ SY w C (w 20 15) (w 20 16) v))) 27 [some (.ref (ga (GX B) 20)), some (iv al), some (iv i), some (iv (skB w (w 20 15) i)), some (iv j)] [] x := by
            intro fuel
            induction fuel with
            | zero => intro x j hfuel; exact absurd hfuel (Nat.not_lt_zero _)
            | succ fuel ih27 =>
                intro x j hfuel j0 j1 hF2 ha2
                have x6 : x 6 = w 6 := hF2.1 6 (by decide) (by decide) (by decide)
                have x7 : x 7 = w 7 := hF2.1 7 (by decide) (by decide) (by decide)
                have x1 : x 1 = w 1 := hF2.1 1 (by decide) (by decide) (by decide)
                have xm : mat x 26 = mat w 26 := by funext a b; unfold mat; rw [hF2.1 26 (by decide) (by decide) (by decide)]
                have x15 := hF2.2 15 (by decide)
                have x16 := hF2.2 16 (by decide)
                have hCx : rep n (mat x 26) C := by rw [xm]; exact hC
                have B1 := skO_B hs1 i0 (by omega)
                refine jr_iload F dX1_tryYears_27 rfl ?_
                refine jr_aload_n F dX1_tryYears_29 rfl ?_
                refine jr_aload_n F dX1_tryYears_30 rfl ?_
                refine jr_getIx F (w 20 16) dX1_tryYears_31 fg_X1_67 (Nat.le_of_ble_eq_true rfl) rfl rfl x16 (fun q31 => ?_)
                refine jr_vI F dX1_tryYears_34 cv_X1_157 (c_X1_yearsOf_20 (by omega)) (Nat.le_of_ble_eq_true rfl) rfl rfl rfl rfl (Nat.le_of_ble_eq_true rfl) (Nat.le_of_ble_eq_true rfl) rfl (Nat.le_of_ble_eq_true rfl) ?_
                refine jr_icmp_ge (tgt := 111) F dX1_tryYears_37 (by decide) (fun c37 => ?_) (fun c37 => ?_) (by omega) (by omega)
                · skip
                  refine jr_iinc F dX1_tryYears_111 rfl (Nat.le_of_ble_eq_true rfl) rfl ?_
                  refine jr_goto (tgt := 2) F dX1_tryYears_114 (by decide) ?_
                  exact jr_sub (ih2 _ (i + 1) (by omega) (by omega) (by omega) hF2 (Acc_c (fun v => by rw [PS_row (by omega)]) ha2)) ⟨rfl, rfl, rfl, trivial⟩
                · skip
                  have B2 := skO_B hs2 j0 (by omega)
                  refine jr_aload_n F dX1_tryYears_40 rfl ?_
                  refine jr_aload_n F dX1_tryYears_41 rfl ?_
                  refine jr_getIx F (w 20 16) dX1_tryYears_42 fg_X1_67 (Nat.le_of_ble_eq_true rfl) rfl rfl x16 (fun q42 => ?_)
                  refine jr_iload F dX1_tryYears_45 rfl ?_
                  refine jr_vI F dX1_tryYears_47 cv_X1_160 (c_X1_beginning_20 (by omega) (by omega)) (Nat.le_of_ble_eq_true rfl) rfl rfl rfl rfl (Nat.le_of_ble_eq_true rfl) (Nat.le_of_ble_eq_true rfl) rfl (Nat.le_of_ble_eq_true rfl) ?_
                  refine jr_ti (b := (skB w (w 20 16) j)) (by rw [cell_skB x6 x7]) ?_
                  refine jr_istore F dX1_tryYears_50 (Nat.le_of_ble_eq_true rfl) rfl ?_
                  refine jr_aload_n F dX1_tryYears_52 rfl ?_
                  refine jr_getR (t := 25) F dX1_tryYears_53 fg_X1_32 (Nat.le_of_ble_eq_true rfl) rfl rfl ?_
                  refine jr_aload_n F dX1_tryYears_56 rfl ?_
                  refine jr_aload_n F dX1_tryYears_57 rfl ?_
                  refine jr_getIx F (w 20 15) dX1_tryYears_58 fg_X1_64 (Nat.le_of_ble_eq_true rfl) rfl rfl x15 (fun q58 => ?_)
                  refine jr_vI F dX1_tryYears_61 cv_X1_161 (c_X1_pointOf_20 (by omega)) (Nat.le_of_ble_eq_true rfl) rfl rfl rfl rfl (Nat.le_of_ble_eq_true rfl) (Nat.le_of_ble_eq_true rfl) rfl (Nat.le_of_ble_eq_true rfl) ?_
                  refine jr_ti (b := (skP w (w 20 15))) (by rw [cell_skP x6]) ?_
                  refine jr_iload_n F dX1_tryYears_64 rfl ?_
                  refine jr_aload_n F dX1_tryYears_65 rfl ?_
                  refine jr_aload_n F dX1_tryYears_66 rfl ?_
                  refine jr_getIx F (w 20 16) dX1_tryYears_67 fg_X1_67 (Nat.le_of_ble_eq_true rfl) rfl rfl x16 (fun q67 => ?_)
                  refine jr_vI F dX1_tryYears_70 cv_X1_161 (c_X1_pointOf_20 (by omega)) (Nat.le_of_ble_eq_true rfl) rfl rfl rfl rfl (Nat.le_of_ble_eq_true rfl) (Nat.le_of_ble_eq_true rfl) rfl (Nat.le_of_ble_eq_true rfl) ?_
                  refine jr_ti (b := (skP w (w 20 16))) (by rw [cell_skP x6]) ?_
                  refine jr_iload F dX1_tryYears_73 rfl ?_
                  refine jr_vI F dX1_tryYears_75 cv_X1_164 (c_X0_allows_25 (n := n) (by omega) P1 P2 (by omega) (by omega) hCx.1) (Nat.le_of_ble_eq_true rfl) rfl rfl rfl rfl (Nat.le_of_ble_eq_true rfl) (Nat.le_of_ble_eq_true rfl) rfl (Nat.le_of_ble_eq_true rfl) ?_
                  refine jr_ifeq_b (tgt := 93) F dX1_tryYears_78 (by decide) (fun c78 => ?_) (fun c78 => ?_)
                  · skip
                    have af := ha2.1
                    refine jr_aload_n F dX1_tryYears_93 rfl ?_
                    refine jr_getZx F (x 20 17) dX1_tryYears_94 fg_X1_70 (Nat.le_of_ble_eq_true rfl) rfl rfl rfl (fun q94 => ?_)
                    refine jr_if_eq (tgt := 105) F dX1_tryYears_97 (by decide) (fun c97 => ?_) (fun c97 => ?_) (by omega)
                    · skip
                      refine jr_iinc F dX1_tryYears_105 rfl (Nat.le_of_ble_eq_true rfl) rfl ?_
                      refine jr_goto (tgt := 27) F dX1_tryYears_108 (by decide) ?_
                      exact jr_sub (ih27 _ (j + 1) (by omega) (by omega) (by omega) hF2 (Acc_c (fun v => by rw [PS_s ⟨i0, by omega⟩ ⟨j0, by omega⟩, or_assoc]) (Acc_n ha2 (fun z => c78 ((TP_ex hCx (by omega) P1 P2).mpr z))))) ⟨rfl, rfl, rfl, rfl, rfl, trivial⟩
                    · skip
                      refine jr_iload_n F dX1_tryYears_100 rfl ?_
                      refine jr_if_ne (tgt := 105) F dX1_tryYears_101 (by decide) (fun c101 => ?_) (fun c101 => ?_) (by omega)
                      · skip
                        refine jr_iinc F dX1_tryYears_105 rfl (Nat.le_of_ble_eq_true rfl) rfl ?_
                        refine jr_goto (tgt := 27) F dX1_tryYears_108 (by decide) ?_
                        exact jr_sub (ih27 _ (j + 1) (by omega) (by omega) (by omega) hF2 (Acc_c (fun v => by rw [PS_s ⟨i0, by omega⟩ ⟨j0, by omega⟩, or_assoc]) (Acc_n ha2 (fun z => c78 ((TP_ex hCx (by omega) P1 P2).mpr z))))) ⟨rfl, rfl, rfl, rfl, rfl, trivial⟩
                      · skip
                        exact jr_vret F dX1_tryYears_104 ⟨rfl, hF2, ⟨ha2.1, ⟨fun z => ((ha2).2.1.mp z).elim (fun v q => ⟨v, q.elim Or.inl (fun y => Or.inr (PS_SY v y))⟩), fun _ => by have := (ha2).1; omega⟩, fun z => by omega⟩⟩
                  · skip
                    refine jr_aload_n F dX1_tryYears_81 rfl ?_
                    refine jr_iload_n F dX1_tryYears_82 rfl ?_
                    refine jr_iload F dX1_tryYears_83 rfl ?_
                    refine jr_vU F dX1_tryYears_85 cv_X1_167 (c_X1_widen_20 (n := n) (by rw [x1]; exact hn) (by rw [x1]; exact h10) (by rw [x15]; omega) (by rw [x16]; omega) (by rw [x15, cell_skP x6]; exact P1) (by rw [x16, cell_skP x6]; exact P2) (by omega) (by omega) hCx.1 ha2.1) (Nat.le_of_ble_eq_true rfl) rfl rfl rfl rfl (Nat.le_of_ble_eq_true rfl) (Nat.le_of_ble_eq_true rfl) rfl (Nat.le_of_ble_eq_true rfl) (fun w85 h85 => ?_)
                    refine jr_ok (fun hO => ?_)
                    refine jr_aload_n F dX1_tryYears_88 rfl ?_
                    refine jr_iconst F dX1_tryYears_89 ?_
                    refine jr_putZx F dX1_tryYears_90 fp_X1_70 (Nat.le_of_ble_eq_true rfl) rfl rfl (by omega) (fun w90 e90 => ?_)
                    have af := ha2.1
                    refine jr_aload_n F dX1_tryYears_93 rfl ?_
                    rw [x15, x16, cell_skP x6, x1] at h85
                    have G0 : Acc w w90 al (fun v => (fun v => S v ∨ PS w C (w 20 15) (w 20 16) i j v) v ∨ TP C (skP w (w 20 15)) (skB w (w 20 15) i) (skP w (w 20 16)) (skB w (w 20 16) j) v) := Acc_y ha2 h85 e90 hCx hn (by omega) P1 P2 c78
                    have G2 : Acc w w90 al (fun v => S v ∨ PS w C (w 20 15) (w 20 16) i (j + 1) v) := Acc_c (fun v => by rw [PS_s ⟨i0, by omega⟩ ⟨j0, by omega⟩, or_assoc]) G0
                    have G1 : tyF w w90 := ⟨fun k a b c => by subst e90; rw [up_cell a, h85.1 k b c]; exact hF2.1 k a b c, fun z hz => by subst e90; rw [up_ne (by omega), h85.1 20 (by decide) (by decide)]; exact hF2.2 z hz⟩
                    refine jr_getZx F 1 dX1_tryYears_94 fg_X1_70 (Nat.le_of_ble_eq_true rfl) rfl rfl (by subst e90; rfl) (fun q94 => ?_)
                    refine jr_if_eq (tgt := 105) F dX1_tryYears_97 (by decide) (fun c97 => ?_) (fun c97 => ?_) (by omega)
                    · exact absurd c97 (by omega)
                    · skip
                      refine jr_iload_n F dX1_tryYears_100 rfl ?_
                      refine jr_if_ne (tgt := 105) F dX1_tryYears_101 (by decide) (fun c101 => ?_) (fun c101 => ?_) (by omega)
                      · skip
                        refine jr_iinc F dX1_tryYears_105 rfl (Nat.le_of_ble_eq_true rfl) rfl ?_
                        refine jr_goto (tgt := 27) F dX1_tryYears_108 (by decide) ?_
                        exact jr_sub (ih27 _ (j + 1) (by omega) (by omega) (by omega) G1 G2) ⟨rfl, rfl, rfl, rfl, rfl, trivial⟩
                      · skip
                        exact jr_vret F dX1_tryYears_104 ⟨rfl, G1, ⟨G2.1, ⟨fun z => ((G2).2.1.mp z).elim (fun v q => ⟨v, q.elim Or.inl (fun y => Or.inr (PS_SY v y))⟩), fun _ => by subst e90; exact up_self _ _ _ _⟩, fun z => by omega⟩⟩
          exact jr_sub (L27 _ _ 0 (Nat.lt_succ_self _) (by omega) (by omega) hF ha) ⟨rfl, rfl, rfl, rfl, rfl, trivial⟩
  exact jr_sub (L2 _ _ 0 (Nat.lt_succ_self _) (by omega) (by omega) ⟨fun _ _ _ _ => rfl, fun _ _ => rfl⟩ (Acc_c (fun v => ⟨Or.inl, fun q => q.elim id (fun z => absurd z (PS_0 v))⟩) hA)) ⟨rfl, rfl, rfl, trivial⟩

