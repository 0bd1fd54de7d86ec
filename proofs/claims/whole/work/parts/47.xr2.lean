theorem rmX {w m : Wd} (h : RM w m) {s : Int} (hs : s = 0 ∨ s = 1) : m 11 s = txn w s := by
  rcases hs with rfl | rfl
  · exact h.2.2.2.1.1.1
  · exact h.2.2.2.1.1.2
noncomputable def skyM (w m : Wd) (a x p q r e : Int) : Wd := up (up (up (accW (comw w) (addTm w m 1 a x (-1) (-1) (-1) e) m) 9 (3 * comw w) p) 9 (3 * comw w + 1) q) 9 (3 * comw w + 2) r
noncomputable def rinM (w m : Wd) (a x p e : Int) : Wd := up (accW (comw w) (addTm w m 2 a x (-1) (-1) (-1) e) m) 9 (3 * comw w) p
theorem comw_R {w : Wd} (h : 0 ≤ w 5 3 ∧ w 5 3 ≤ 8) : (comw w = -104 ∧ w 5 3 = 8) ∨ (comw w = w 5 3 ∧ w 5 3 < 8) := by unfold comw; split <;> omega

set_option maxRecDepth 100000 in
set_option maxHeartbeats 4000000 in
theorem c_X8_sky {B : Bs} {w m : Wd} {a x p q r e : Int} (hM : RM w m) (h3 : 0 ≤ w 1 3 ∧ w 1 3 ≤ 10) (h5 : 0 ≤ w 5 3 ∧ w 5 3 ≤ 8) (h4 : w 5 4 = cnq (fun t => tfa w t 0 = 1) (w 5 3).toNat) (hc : w 5 4 ≤ 2) (ha : inR a) (hx : inR x) (hp : inR p) (hq : inR q) (hr : inR r) (he : inR e) : Sp (GM B) 2 yX8_sky cX8_sky 9 (Option.some FieldType.int) [.ref (ga (GM B) (0)), iv (a), iv (x), iv (p), iv (q), iv (r), iv (e)] m (pI (accW (skqw w a x p q r e) (skyM w m a x p q r e) m) (skqw w a x p q r e)) := by
  refine Sp.of (by decide) (Nat.le_of_ble_eq_true rfl) (fun X F => ?_)
  show Jw (GM B) X _ 0 [some (.ref (ga (GM B) (0))), some (iv (a)), some (iv (x)), some (iv (p)), some (iv (q)), some (iv (r)), some (iv (e))] [] m
  refine jr_aload_n F dX8_sky_0 rfl ?_
  refine jr_iload_n F dX8_sky_1 rfl ?_
  refine jr_vI F dX8_sky_2 cv_X8_103 (c_X8_isReign hM h3 (by omega)) (Nat.le_of_ble_eq_true rfl) rfl rfl rfl rfl (Nat.le_of_ble_eq_true rfl) (Nat.le_of_ble_eq_true rfl) rfl (Nat.le_of_ble_eq_true rfl) ?_
  refine jr_ifne_b (tgt := 11) F dX8_sky_5 (by decide) (fun c5 => ?_) (fun c5 => ?_)
  · skip
    refine jr_iload_n F dX8_sky_11 rfl ?_
    refine jr_sI F dX8_sky_12 cs_X8_125 (c_X8_isXth (by omega)) rfl (Nat.le_of_ble_eq_true rfl) (Nat.le_of_ble_eq_true rfl) rfl (Nat.le_of_ble_eq_true rfl) ?_
    refine jr_ifeq_b (tgt := 49) F dX8_sky_15 (by decide) (fun c15 => ?_) (fun c15 => ?_)
    · skip
      refine jr_bipush F dX8_sky_49 (by decide) ?_
      exact jr_iret F dX8_sky_51 (pA_n (by unfold skqw; rw [if_pos c5, if_neg (by omega)]) (by omega) rfl)
    · skip
      refine jr_iload_n F dX8_sky_18 rfl ?_
      refine jr_sI F dX8_sky_19 cs_X8_132 (c_X8_isYear (by omega)) rfl (Nat.le_of_ble_eq_true rfl) (Nat.le_of_ble_eq_true rfl) rfl (Nat.le_of_ble_eq_true rfl) ?_
      refine jr_ifeq_b (tgt := 49) F dX8_sky_22 (by decide) (fun c22 => ?_) (fun c22 => ?_)
      · skip
        refine jr_bipush F dX8_sky_49 (by decide) ?_
        exact jr_iret F dX8_sky_51 (pA_n (by unfold skqw; rw [if_pos c5, if_neg (by omega)]) (by omega) rfl)
      · skip
        refine jr_iload F dX8_sky_25 rfl ?_
        refine jr_sI F dX8_sky_27 cs_X8_132 (c_X8_isYear (by omega)) rfl (Nat.le_of_ble_eq_true rfl) (Nat.le_of_ble_eq_true rfl) rfl (Nat.le_of_ble_eq_true rfl) ?_
        refine jr_ifeq_b (tgt := 49) F dX8_sky_30 (by decide) (fun c30 => ?_) (fun c30 => ?_)
        · skip
          refine jr_bipush F dX8_sky_49 (by decide) ?_
          exact jr_iret F dX8_sky_51 (pA_n (by unfold skqw; rw [if_pos c5, if_neg (by omega)]) (by omega) rfl)
        · skip
          refine jr_iload F dX8_sky_33 rfl ?_
          refine jr_sI F dX8_sky_35 cs_X8_132 (c_X8_isYear (by omega)) rfl (Nat.le_of_ble_eq_true rfl) (Nat.le_of_ble_eq_true rfl) rfl (Nat.le_of_ble_eq_true rfl) ?_
          refine jr_ifeq_b (tgt := 49) F dX8_sky_38 (by decide) (fun c38 => ?_) (fun c38 => ?_)
          · skip
            refine jr_bipush F dX8_sky_49 (by decide) ?_
            exact jr_iret F dX8_sky_51 (pA_n (by unfold skqw; rw [if_pos c5, if_neg (by omega)]) (by omega) rfl)
          · skip
            refine jr_iload F dX8_sky_41 rfl ?_
            refine jr_sI F dX8_sky_43 cs_X8_92 (c_X8_isEdition (by omega)) rfl (Nat.le_of_ble_eq_true rfl) (Nat.le_of_ble_eq_true rfl) rfl (Nat.le_of_ble_eq_true rfl) ?_
            refine jr_ifne_b (tgt := 52) F dX8_sky_46 (by decide) (fun c46 => ?_) (fun c46 => ?_)
            · skip
              refine jr_iconst F dX8_sky_52 ?_
              refine jr_istore F dX8_sky_53 (Nat.le_of_ble_eq_true rfl) rfl ?_
              refine jr_iconst F dX8_sky_55 ?_
              refine jr_istore F dX8_sky_56 (Nat.le_of_ble_eq_true rfl) rfl ?_
              have L58 : ∀ (fuel : Nat) (i : Int) (z : Int), (w 5 3 - i).toNat < fuel → (0 ≤ i) → (i ≤ w 5 3) → (0 ≤ a ∧ a < w 1 3) → ((1 ≤ x ∧ x ≤ 99) ∧ (-2000 ≤ p ∧ p ≤ 2000) ∧ (-2000 ≤ q ∧ q ≤ 2000) ∧ (-2000 ≤ r ∧ r ≤ 2000) ∧ (0 ≤ e ∧ e ≤ 9)) → (z = cnq (fun t => tfa w t 0 = 1) i.toNat) → Jw (GM B) X (pI (accW (skqw w a x p q r e) (skyM w m a x p q r e) m) (skqw w a x p q r e)) 58 [some (.ref (ga (GM B) 0)), some (iv a), some (iv x), some (iv p), some (iv q), some (iv r), some (iv e), some (iv z), some (iv i)] [] m := by
                intro fuel
                induction fuel with
                | zero => intro i z hfuel; exact absurd hfuel (Nat.not_lt_zero _)
                | succ fuel ih58 =>
                    intro i z hfuel i0 i1 hA hB hz
                    have zR := cnq_R2 (P := fun t => tfa w t 0 = 1) i0 i1
                    refine jr_iload F dX8_sky_58 rfl ?_
                    refine jr_aload_n F dX8_sky_60 rfl ?_
                    refine jr_getIx F (w 5 3) dX8_sky_61 fg_X8_122 (Nat.le_of_ble_eq_true rfl) rfl rfl ((show m 0 8 = (w 5 3) from rn8 hM)) (fun q61 => ?_)
                    refine jr_icmp_ge (tgt := 97) F dX8_sky_64 (by decide) (fun c64 => ?_) (fun c64 => ?_) (by omega) (by omega)
                    · skip
                      obtain rfl : i = w 5 3 := by omega
                      rw [← h4] at hz
                      have cR := comw_R h5
                      refine jr_iload F dX8_sky_97 rfl ?_
                      refine jr_iconst F dX8_sky_99 ?_
                      refine jr_icmp_ne (tgt := 106) F dX8_sky_100 (by decide) (fun c100 => ?_) (fun c100 => ?_) (by omega) (by omega)
                      · skip
                        refine jr_aload_n F dX8_sky_106 rfl ?_
                        refine jr_iconst F dX8_sky_107 ?_
                        refine jr_iload_n F dX8_sky_108 rfl ?_
                        refine jr_iload_n F dX8_sky_109 rfl ?_
                        refine jr_iconst F dX8_sky_110 ?_
                        refine jr_iconst F dX8_sky_111 ?_
                        refine jr_iconst F dX8_sky_112 ?_
                        refine jr_iload F dX8_sky_113 rfl ?_
                        refine jr_vIx F dX8_sky_115 cv_X8_128 (c_X8_come hM h5 (by omega) (by omega) (by omega) (by omega) (by omega) (by omega) (by omega)) (Nat.le_of_ble_eq_true rfl) rfl rfl rfl rfl (Nat.le_of_ble_eq_true rfl) (Nat.le_of_ble_eq_true rfl) rfl (Nat.le_of_ble_eq_true rfl) (fun w115 e115 => ?_)
                        refine jr_istore F dX8_sky_118 (Nat.le_of_ble_eq_true rfl) rfl ?_
                        refine jr_iload F dX8_sky_120 rfl ?_
                        refine jr_bipush F dX8_sky_122 (by decide) ?_
                        refine jr_icmp_eq (tgt := 163) F dX8_sky_124 (by decide) (fun c124 => ?_) (fun c124 => ?_) (by omega) (by omega)
                        · skip
                          refine jr_iload F dX8_sky_163 rfl ?_
                          exact jr_iret F dX8_sky_165 (pA_n (by unfold skqw; rw [if_pos hA, if_pos hB, if_neg (by omega)]; omega) (by omega) (by rw [e115, accW_n (by omega)]))
                        · skip
                          refine jr_aload_n F dX8_sky_127 rfl ?_
                          refine jr_getR (t := 9) F dX8_sky_128 fg_X8_34 (Nat.le_of_ble_eq_true rfl) rfl rfl ?_
                          refine jr_iconst F dX8_sky_131 ?_
                          refine jr_iload F dX8_sky_132 rfl ?_
                          refine jr_imul F dX8_sky_134 ?_
                          refine jr_iload_n F dX8_sky_135 rfl ?_
                          refine jr_iastx F dX8_sky_136 (Nat.le_of_ble_eq_true rfl) rfl (by omega) (fun w136 e136 => ?_) (by omega) (by omega) (by omega)
                          refine jr_aload_n F dX8_sky_137 rfl ?_
                          refine jr_getR (t := 9) F dX8_sky_138 fg_X8_34 (Nat.le_of_ble_eq_true rfl) rfl rfl ?_
                          refine jr_iconst F dX8_sky_141 ?_
                          refine jr_iload F dX8_sky_142 rfl ?_
                          refine jr_imul F dX8_sky_144 ?_
                          refine jr_iconst F dX8_sky_145 ?_
                          refine jr_iadd F dX8_sky_146 ?_
                          refine jr_iload F dX8_sky_147 rfl ?_
                          refine jr_iastx F dX8_sky_149 (Nat.le_of_ble_eq_true rfl) rfl (by omega) (fun w149 e149 => ?_) (by omega) (by omega) (by omega)
                          refine jr_aload_n F dX8_sky_150 rfl ?_
                          refine jr_getR (t := 9) F dX8_sky_151 fg_X8_34 (Nat.le_of_ble_eq_true rfl) rfl rfl ?_
                          refine jr_iconst F dX8_sky_154 ?_
                          refine jr_iload F dX8_sky_155 rfl ?_
                          refine jr_imul F dX8_sky_157 ?_
                          refine jr_iconst F dX8_sky_158 ?_
                          refine jr_iadd F dX8_sky_159 ?_
                          refine jr_iload F dX8_sky_160 rfl ?_
                          refine jr_iastx F dX8_sky_162 (Nat.le_of_ble_eq_true rfl) rfl (by omega) (fun w162 e162 => ?_) (by omega) (by omega) (by omega)
                          refine jr_iload F dX8_sky_163 rfl ?_
                          exact jr_iret F dX8_sky_165 (pA_y (by unfold skqw; rw [if_pos hA, if_pos hB, if_pos (by omega)]; omega) (by omega) (by subst e162; subst e149; subst e136; subst e115; first | rfl | omega))
                      · skip
                        refine jr_bipush F dX8_sky_103 (by decide) ?_
                        exact jr_iret F dX8_sky_105 (pA_n (by unfold skqw; rw [if_pos hA, if_pos hB, if_neg (by omega)]) (by omega) rfl)
                    · skip
                      refine jr_iload F dX8_sky_67 rfl ?_
                      refine jr_aload_n F dX8_sky_69 rfl ?_
                      refine jr_getR (t := 8) F dX8_sky_70 fg_X8_31 (Nat.le_of_ble_eq_true rfl) rfl rfl ?_
                      refine jr_bipush F dX8_sky_73 (by decide) ?_
                      refine jr_iload F dX8_sky_75 rfl ?_
                      refine jr_imul F dX8_sky_77 ?_
                      refine jr_iald F dX8_sky_78 (Nat.le_of_ble_eq_true rfl) rfl (by omega) (fun q78 => ?_) (by omega) (by omega)
                      have v78 : m 8 ((7 * i)) = (tfa w i 0) := (rmT0 hM (t := i) (by omega) (by omega))
                      rw [v78] at q78
                      refine jr_ti v78 ?_
                      refine jr_iconst F dX8_sky_79 ?_
                      refine jr_icmp_ne (tgt := 87) F dX8_sky_80 (by decide) (fun c80 => ?_) (fun c80 => ?_) (by omega) (by omega)
                      · skip
                        refine jr_iconst F dX8_sky_87 ?_
                        refine jr_iadd F dX8_sky_88 ?_
                        refine jr_istore F dX8_sky_89 (Nat.le_of_ble_eq_true rfl) rfl ?_
                        refine jr_iinc F dX8_sky_91 rfl (Nat.le_of_ble_eq_true rfl) rfl ?_
                        refine jr_goto (tgt := 58) F dX8_sky_94 (by decide) ?_
                        exact jr_sub (ih58 (i + 1) _ (by omega) (by omega) (by omega) hA hB (by first | (rw [cnq_n i0 (by assumption), hz]; omega) | (rw [cnq_y i0 (by assumption), hz]))) ⟨rfl, rfl, rfl, rfl, rfl, rfl, rfl, rfl, rfl, trivial⟩
                      · skip
                        refine jr_iconst F dX8_sky_83 ?_
                        refine jr_goto (tgt := 88) F dX8_sky_84 (by decide) ?_
                        refine jr_iadd F dX8_sky_88 ?_
                        refine jr_istore F dX8_sky_89 (Nat.le_of_ble_eq_true rfl) rfl ?_
                        refine jr_iinc F dX8_sky_91 rfl (Nat.le_of_ble_eq_true rfl) rfl ?_
                        refine jr_goto (tgt := 58) F dX8_sky_94 (by decide) ?_
                        exact jr_sub (ih58 (i + 1) _ (by omega) (by omega) (by omega) hA hB (by first | (rw [cnq_n i0 (by assumption), hz]; omega) | (rw [cnq_y i0 (by assumption), hz]))) ⟨rfl, rfl, rfl, rfl, rfl, rfl, rfl, rfl, rfl, trivial⟩
              exact jr_sub (L58 _ 0 0 (Nat.lt_succ_self _) (by omega) (by omega) (by omega) (by omega) rfl) ⟨rfl, rfl, rfl, rfl, rfl, rfl, rfl, rfl, rfl, trivial⟩
            · skip
              refine jr_bipush F dX8_sky_49 (by decide) ?_
              exact jr_iret F dX8_sky_51 (pA_n (by unfold skqw; rw [if_pos c5, if_neg (by omega)]) (by omega) rfl)
  · skip
    refine jr_bipush F dX8_sky_8 (by decide) ?_
    exact jr_iret F dX8_sky_10 (pA_n (by unfold skqw; rw [if_neg c5]) (by omega) rfl)

set_option maxRecDepth 100000 in
set_option maxHeartbeats 4000000 in
theorem c_X8_ring {B : Bs} {w m : Wd} {a x p e : Int} (hM : RM w m) (h3 : 0 ≤ w 1 3 ∧ w 1 3 ≤ 10) (h5 : 0 ≤ w 5 3 ∧ w 5 3 ≤ 8) (ha : inR a) (hx : inR x) (hp : inR p) (he : inR e) : Sp (GM B) 2 yX8_ring cX8_ring 6 (Option.some FieldType.int) [.ref (ga (GM B) (0)), iv (a), iv (x), iv (p), iv (e)] m (pI (accW (rinw w a x p e) (rinM w m a x p e) m) (rinw w a x p e)) := by
  refine Sp.of (by decide) (Nat.le_of_ble_eq_true rfl) (fun X F => ?_)
  have cR := comw_R h5
  show Jw (GM B) X _ 0 [some (.ref (ga (GM B) (0))), some (iv (a)), some (iv (x)), some (iv (p)), some (iv (e))] [] m
  refine jr_aload_n F dX8_ring_0 rfl ?_
  refine jr_iload_n F dX8_ring_1 rfl ?_
  refine jr_vI F dX8_ring_2 cv_X8_103 (c_X8_isReign hM h3 (by omega)) (Nat.le_of_ble_eq_true rfl) rfl rfl rfl rfl (Nat.le_of_ble_eq_true rfl) (Nat.le_of_ble_eq_true rfl) rfl (Nat.le_of_ble_eq_true rfl) ?_
  refine jr_ifne_b (tgt := 11) F dX8_ring_5 (by decide) (fun c5 => ?_) (fun c5 => ?_)
  · skip
    refine jr_iload_n F dX8_ring_11 rfl ?_
    refine jr_sI F dX8_ring_12 cs_X8_125 (c_X8_isXth (by omega)) rfl (Nat.le_of_ble_eq_true rfl) (Nat.le_of_ble_eq_true rfl) rfl (Nat.le_of_ble_eq_true rfl) ?_
    refine jr_ifeq_b (tgt := 33) F dX8_ring_15 (by decide) (fun c15 => ?_) (fun c15 => ?_)
    · skip
      refine jr_bipush F dX8_ring_33 (by decide) ?_
      exact jr_iret F dX8_ring_35 (pA_n (by unfold rinw; rw [if_pos c5, if_neg (by omega)]) (by omega) rfl)
    · skip
      refine jr_iload_n F dX8_ring_18 rfl ?_
      refine jr_sI F dX8_ring_19 cs_X8_132 (c_X8_isYear (by omega)) rfl (Nat.le_of_ble_eq_true rfl) (Nat.le_of_ble_eq_true rfl) rfl (Nat.le_of_ble_eq_true rfl) ?_
      refine jr_ifeq_b (tgt := 33) F dX8_ring_22 (by decide) (fun c22 => ?_) (fun c22 => ?_)
      · skip
        refine jr_bipush F dX8_ring_33 (by decide) ?_
        exact jr_iret F dX8_ring_35 (pA_n (by unfold rinw; rw [if_pos c5, if_neg (by omega)]) (by omega) rfl)
      · skip
        refine jr_iload F dX8_ring_25 rfl ?_
        refine jr_sI F dX8_ring_27 cs_X8_92 (c_X8_isEdition (by omega)) rfl (Nat.le_of_ble_eq_true rfl) (Nat.le_of_ble_eq_true rfl) rfl (Nat.le_of_ble_eq_true rfl) ?_
        refine jr_ifne_b (tgt := 36) F dX8_ring_30 (by decide) (fun c30 => ?_) (fun c30 => ?_)
        · skip
          refine jr_aload_n F dX8_ring_36 rfl ?_
          refine jr_iconst F dX8_ring_37 ?_
          refine jr_iload_n F dX8_ring_38 rfl ?_
          refine jr_iload_n F dX8_ring_39 rfl ?_
          refine jr_iconst F dX8_ring_40 ?_
          refine jr_iconst F dX8_ring_41 ?_
          refine jr_iconst F dX8_ring_42 ?_
          refine jr_iload F dX8_ring_43 rfl ?_
          refine jr_vIx F dX8_ring_45 cv_X8_128 (c_X8_come hM h5 (by omega) (by omega) (by omega) (by omega) (by omega) (by omega) (by omega)) (Nat.le_of_ble_eq_true rfl) rfl rfl rfl rfl (Nat.le_of_ble_eq_true rfl) (Nat.le_of_ble_eq_true rfl) rfl (Nat.le_of_ble_eq_true rfl) (fun w45 e45 => ?_)
          refine jr_istore F dX8_ring_48 (Nat.le_of_ble_eq_true rfl) rfl ?_
          refine jr_iload F dX8_ring_50 rfl ?_
          refine jr_bipush F dX8_ring_52 (by decide) ?_
          refine jr_icmp_eq (tgt := 67) F dX8_ring_54 (by decide) (fun c54 => ?_) (fun c54 => ?_) (by omega) (by omega)
          · skip
            refine jr_iload F dX8_ring_67 rfl ?_
            exact jr_iret F dX8_ring_69 (pA_n (by unfold rinw; rw [if_pos c5, if_pos (by omega), if_neg (by omega)]; omega) (by omega) (by rw [e45, accW_n (by omega)]))
          · skip
            refine jr_aload_n F dX8_ring_57 rfl ?_
            refine jr_getR (t := 9) F dX8_ring_58 fg_X8_34 (Nat.le_of_ble_eq_true rfl) rfl rfl ?_
            refine jr_iconst F dX8_ring_61 ?_
            refine jr_iload F dX8_ring_62 rfl ?_
            refine jr_imul F dX8_ring_64 ?_
            refine jr_iload_n F dX8_ring_65 rfl ?_
            refine jr_iastx F dX8_ring_66 (Nat.le_of_ble_eq_true rfl) rfl (by omega) (fun w66 e66 => ?_) (by omega) (by omega) (by omega)
            refine jr_iload F dX8_ring_67 rfl ?_
            exact jr_iret F dX8_ring_69 (pA_y (by unfold rinw; rw [if_pos c5, if_pos (by omega), if_pos (by omega)]; omega) (by omega) (by subst e66; subst e45; first | rfl | omega))
        · skip
          refine jr_bipush F dX8_ring_33 (by decide) ?_
          exact jr_iret F dX8_ring_35 (pA_n (by unfold rinw; rw [if_pos c5, if_neg (by omega)]) (by omega) rfl)
  · skip
    refine jr_bipush F dX8_ring_8 (by decide) ?_
    exact jr_iret F dX8_ring_10 (pA_n (by unfold rinw; rw [if_neg c5]) (by omega) rfl)

theorem txn_R {w : Wd} (h1 : 0 ≤ w 11 2 ∧ w 11 2 ≤ 6) (h2 : 0 ≤ w 14 2 ∧ w 14 2 ≤ 6) (s : Int) : 0 ≤ txn w s ∧ txn w s ≤ 6 := by unfold txn; split <;> omega

set_option maxRecDepth 100000 in
set_option maxHeartbeats 4000000 in
theorem c_X8_strike {B : Bs} {w m : Wd} {s : Int} (hM : RM w m) (h11 : 0 ≤ w 11 2 ∧ w 11 2 ≤ 6) (h14 : 0 ≤ w 14 2 ∧ w 14 2 ≤ 6) (hs : inR s) : Sp (GM B) 2 yX8_strike cX8_strike 2 (Option.some FieldType.int) [.ref (ga (GM B) (0)), iv (s)] m (pI (accW (strw w s) (up m 11 s (txn w s - 1)) m) (strw w s)) := by
  refine Sp.of (by decide) (Nat.le_of_ble_eq_true rfl) (fun X F => ?_)
  have tR := txn_R h11 h14 s
  show Jw (GM B) X _ 0 [some (.ref (ga (GM B) (0))), some (iv (s))] [] m
  refine jr_iload_n F dX8_strike_0 rfl ?_
  refine jr_sI F dX8_strike_1 cs_X8_160 (c_X8_isSchool (by omega)) rfl (Nat.le_of_ble_eq_true rfl) (Nat.le_of_ble_eq_true rfl) rfl (Nat.le_of_ble_eq_true rfl) ?_
  refine jr_ifne_b (tgt := 10) F dX8_strike_4 (by decide) (fun c4 => ?_) (fun c4 => ?_)
  · skip
    refine jr_aload_n F dX8_strike_10 rfl ?_
    refine jr_getR (t := 11) F dX8_strike_11 fg_X8_41 (Nat.le_of_ble_eq_true rfl) rfl rfl ?_
    refine jr_iload_n F dX8_strike_14 rfl ?_
    refine jr_iald F dX8_strike_15 (Nat.le_of_ble_eq_true rfl) rfl (by omega) (fun q15 => ?_) (by omega) (by omega)
    refine jr_ti (b := (txn w s)) (rmX hM c4) ?_
    refine jr_if_ne (tgt := 22) F dX8_strike_16 (by decide) (fun c16 => ?_) (fun c16 => ?_) (by omega)
    · skip
      refine jr_aload_n F dX8_strike_22 rfl ?_
      refine jr_getR (t := 11) F dX8_strike_23 fg_X8_41 (Nat.le_of_ble_eq_true rfl) rfl rfl ?_
      refine jr_iload_n F dX8_strike_26 rfl ?_
      refine jr_dup2 F dX8_strike_27 rfl rfl ?_
      refine jr_iald F dX8_strike_28 (Nat.le_of_ble_eq_true rfl) rfl (by omega) (fun q28 => ?_) (by omega) (by omega)
      refine jr_ti (b := (txn w s)) (rmX hM c4) ?_
      refine jr_iconst F dX8_strike_29 ?_
      refine jr_isub F dX8_strike_30 ?_
      refine jr_iastx F dX8_strike_31 (Nat.le_of_ble_eq_true rfl) rfl (by omega) (fun w31 e31 => ?_) (by omega) (by omega) (by omega)
      refine jr_aload_n F dX8_strike_32 rfl ?_
      refine jr_getR (t := 11) F dX8_strike_33 fg_X8_41 (Nat.le_of_ble_eq_true rfl) rfl rfl ?_
      refine jr_iload_n F dX8_strike_36 rfl ?_
      refine jr_iald F dX8_strike_37 (Nat.le_of_ble_eq_true rfl) rfl (by omega) (fun q37 => ?_) (by omega) (by omega)
      refine jr_ti (b := (txn w s - 1)) (by subst e31; exact up_self _ _ _ _) ?_
      first | exact jr_iret F dX8_strike_38 (pA_n (by unfold strw; (repeat' split) <;> omega) (by omega) (by subst e31; first | rfl | omega)) | exact jr_iret F dX8_strike_38 (pA_y (by unfold strw; (repeat' split) <;> omega) (by omega) (by subst e31; first | rfl | omega))
    · skip
      refine jr_bipush F dX8_strike_19 (by decide) ?_
      first | exact jr_iret F dX8_strike_21 (pA_n (by unfold strw; (repeat' split) <;> omega) (by omega) rfl) | exact jr_iret F dX8_strike_21 (pA_y (by unfold strw; (repeat' split) <;> omega) (by omega) rfl)
  · skip
    refine jr_bipush F dX8_strike_7 (by decide) ?_
    first | exact jr_iret F dX8_strike_9 (pA_n (by unfold strw; (repeat' split) <;> omega) (by omega) rfl) | exact jr_iret F dX8_strike_9 (pA_y (by unfold strw; (repeat' split) <;> omega) (by omega) rfl)

def wrL (a : Int) : Int := (Int64.ofInt a).toInt
theorem wrL_e (a : Int) : Int64.ofInt a = Int64.ofInt (wrL a) := (Int64.ofInt_toInt _).symm
theorem wrL_R (a : Int) : inL (wrL a) := by
  have h1 := Int64.le_toInt (Int64.ofInt a)
  have h2 := Int64.toInt_lt (Int64.ofInt a)
  unfold wrL
  omega
theorem wrL_a (a c : Int) : Int64.ofInt (31 * wrL a + c) = Int64.ofInt (31 * a + c) := by
  rw [Int64.ofInt_add, Int64.ofInt_mul, ← wrL_e, ← Int64.ofInt_mul, ← Int64.ofInt_add]

set_option maxRecDepth 100000 in
set_option maxHeartbeats 4000000 in
theorem c_X8_mix {B : Bs} {m : Wd} {v : Int}  : Sp (GM B) 0 yX8_mix cX8_mix 3 (Option.none : Option FieldType) [.ref (ga (GM B) (0)), lq (v)] m (pV (up m 0 33 (wrL (31 * m 0 33 + v)))) := by
  refine Sp.of (by decide) (Nat.le_of_ble_eq_true rfl) (fun X F => ?_)
  show Jw (GM B) X _ 0 [some (.ref (ga (GM B) (0))), some (lq (v)), none] [] m
  refine jr_aload_n F dX8_mix_0 rfl ?_
  refine jr_ldc2 (z := 31) F dX8_mix_1 (tb_in 1302 (by decide +kernel) (by decide +kernel)) ?_
  refine jr_aload_n F dX8_mix_4 rfl ?_
  refine jr_getLx F (m 0 33) dX8_mix_5 fg_X8_254 (Nat.le_of_ble_eq_true rfl) rfl rfl rfl (fun q5 => ?_)
  refine jr_lmul F dX8_mix_8 ?_
  refine jr_lload_n F dX8_mix_9 rfl ?_
  refine jr_ladd F dX8_mix_10 ?_
  refine jr_topl (z := wrL (31 * m 0 33 + v)) F (wrL_e _) ?_
  refine jr_putLx F dX8_mix_11 fp_X8_254 (Nat.le_of_ble_eq_true rfl) rfl rfl (wrL_R _) (fun w11 e11 => ?_)
  exact jr_vret F dX8_mix_14 ⟨rfl, (by subst e11; first | rfl | omega)⟩

/-! letters: bytes of a long, by its signed shift -/
theorem z64 (z : Int) : (Int64.ofInt z).toInt % 18446744073709551616 = z % 18446744073709551616 := by
  have h := congrArg (fun x : Int64 => x.toBitVec.toNat) (Int64.ofInt_toInt (Int64.ofInt z))
  simp only [Int64.toBitVec_ofInt, BitVec.toNat_ofInt] at h
  have a : 0 ≤ (Int64.ofInt z).toInt % 18446744073709551616 := by omega
  have b : 0 ≤ z % 18446744073709551616 := by omega
  have e : ((2 ^ 64 : Nat) : Int) = 18446744073709551616 := by decide
  rw [e] at h
  omega
def shv (z p : Int) : Int := (Int64.ofInt z).toInt / (2 ^ (8 * p.toNat) : Nat)
theorem shv_e0 (z : Int) (k : Nat) (s : Int64) (hs : (s.toBitVec.smod 64).toNat = k) : Int64.ofInt z >>> s = Int64.ofInt ((Int64.ofInt z).toInt / (2 ^ k : Nat)) := by
  apply Int64.toBitVec_inj.mp
  rw [Int64.toBitVec_shiftRight, Int64.toBitVec_ofInt]
  show BitVec.ofInt 64 ((Int64.ofInt z).toInt >>> (s.toBitVec.smod 64).toNat) = _
  rw [hs, Int.shiftRight_eq_div_pow]
  rfl
theorem p8 {p : Int} (hp : 0 ≤ p ∧ p ≤ 7) : p = 0 ∨ p = 1 ∨ p = 2 ∨ p = 3 ∨ p = 4 ∨ p = 5 ∨ p = 6 ∨ p = 7 := by omega
theorem shv_e (z p : Int) (hp : 0 ≤ p ∧ p ≤ 7) : Int64.ofInt z >>> ((Int32.ofInt (8 * p)).toInt64 &&& 63) = Int64.ofInt (shv z p) := by
  unfold shv
  rcases p8 hp with rfl | rfl | rfl | rfl | rfl | rfl | rfl | rfl
  · exact shv_e0 z 0 _ (by decide)
  · exact shv_e0 z 8 _ (by decide)
  · exact shv_e0 z 16 _ (by decide)
  · exact shv_e0 z 24 _ (by decide)
  · exact shv_e0 z 32 _ (by decide)
  · exact shv_e0 z 40 _ (by decide)
  · exact shv_e0 z 48 _ (by decide)
  · exact shv_e0 z 56 _ (by decide)
theorem shv_b (z p : Int) (hp : 0 ≤ p ∧ p ≤ 7) : shv z p % 256 = byt z p := by
  have h := z64 z
  unfold shv byt
  generalize (Int64.ofInt z).toInt = q at h ⊢
  rcases p8 hp with rfl | rfl | rfl | rfl | rfl | rfl | rfl | rfl
  · simp; omega
  · simp; omega
  · simp; omega
  · simp; omega
  · simp; omega
  · simp; omega
  · simp; omega
  · simp; omega
theorem l64_255 (a : Int) : Int64.ofInt a &&& Int64.ofInt 255 = Int64.ofInt (a % 256) := by
  apply l64_ext
  have e255 : (Int64.ofInt 255).toBitVec = BitVec.ofNat 64 (2 ^ 8 - 1) := by decide
  have h1 : (BitVec.ofNat 64 (2 ^ 8 - 1)).toNat = 2 ^ 8 - 1 := by decide
  rw [Int64.toBitVec_and, BitVec.toNat_and, e255, h1, Nat.and_two_pow_sub_one_eq_mod, Int64.toBitVec_ofInt, Int64.toBitVec_ofInt, BitVec.toNat_ofInt, BitVec.toNat_ofInt]
  have e : ((2 ^ 64 : Nat) : Int) = 18446744073709551616 := by decide
  rw [e]
  omega
theorem shv_255 (z p : Int) (hp : 0 ≤ p ∧ p ≤ 7) : Int64.ofInt (shv z p) &&& Int64.ofInt 255 = Int64.ofInt (byt z p) := by rw [l64_255, shv_b z p hp]
theorem i8_of {a b : Int} (h : a % 256 = b % 256) : Int8.ofInt a = Int8.ofInt b := by
  apply Int8.toBitVec_inj.mp
  apply BitVec.eq_of_toNat_eq
  rw [Int8.toBitVec_ofInt, Int8.toBitVec_ofInt, BitVec.toNat_ofInt, BitVec.toNat_ofInt]
  have e : ((2 ^ 8 : Nat) : Int) = 256 := by decide
  rw [e]
  omega
theorem jr_i2bx {G : Gc} {X : Xc} {own : String} {cc : ByteArray} {nL d : Nat} {ret : Option FieldType} {post : Option Value → Wd → Prop} {pc : Nat} {lv : List (Option Value)} {rest : List Value} {w : Wd} (F : Fx G X own cc nL d ret) {a b : Int} (hd : decode cc pc = .ok (.i2b, 1)) (hb : a % 256 = b ∧ b ≤ 127)
    (k : Jw G X post (pc + 1) lv (iv b :: rest) w) : Jw G X post pc lv (iv a :: rest) w := by
  intro H locs ls hP hD hS hO hl
  exact lv_i2b F.1 F.2.1 hd (by rw [Int32.toInt8_ofInt, i8_of (show a % 256 = b % 256 by omega)]; exact Int32.toInt_inj.mp (by rw [Int8.toInt_toInt32, Int8.toInt_ofInt_of_le (by omega) (by omega), iv_toInt (by omega)])) (k H locs ls hP hD hS hO hl)
def wrM (w m : Wd) (z : Int) : Nat → Wd
  | 0 => m
  | n + 1 => up (wrM w m z n) 10 (w 18 1 + (n : Nat)) (byt z (n : Nat))
theorem wrM_s {w m : Wd} {z n : Int} (h : 0 ≤ n) : wrM w m z (n + 1).toNat = up (wrM w m z n.toNat) 10 (w 18 1 + n) (byt z n) := by rw [show (n + 1).toNat = n.toNat + 1 by omega, wrM, Int.toNat_of_nonneg h]
theorem wrM_c (w m : Wd) (z : Int) {k : Nat} (h : k ≠ 10) : ∀ n, wrM w m z n k = m k
  | 0 => rfl
  | n + 1 => by rw [wrM, up_cell h, wrM_c w m z h n]
def lesM (w m : Wd) (z : Int) : Wd := up (wrM w m z (lin z 8 0 0).toNat) 0 11 (w 18 1 + lin z 8 0 0)
/-- each of the first letters told is one -/
theorem lin_b (z : Int) : ∀ (f : Nat) (p t : Int), 0 ≤ t → t ≤ p → (∀ i : Int, 0 ≤ i → i < t → 0 < byt z i ∧ byt z i ≤ 126) → ¬ lin z f p t = -102 → ∀ i : Int, 0 ≤ i → i < lin z f p t → 0 < byt z i ∧ byt z i ≤ 126
  | 0, p, t, _, _, h, _ => h
  | f + 1, p, t, h0, h1, h, hn => by
    unfold lin at hn ⊢
    by_cases c : 126 < byt z p ∨ (¬ byt z p = 0 ∧ t < p)
    · rw [if_pos c] at hn; exact absurd rfl hn
    · rw [if_neg c] at hn ⊢
      have bR := byt_R z p
      by_cases e : byt z p = 0
      · rw [if_pos e] at hn ⊢
        exact lin_b z f (p + 1) (t + 0) (by omega) (by omega) (fun i a b => h i a (by omega)) hn
      · rw [if_neg e] at hn ⊢
        refine lin_b z f (p + 1) (t + 1) (by omega) (by omega) (fun i a b => ?_) hn
        by_cases q : i = t
        · have : i = p := by omega
          rw [this]; omega
        · exact h i a (by omega)

