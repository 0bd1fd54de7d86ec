set_option maxRecDepth 100000 in
set_option maxHeartbeats 4000000 in
theorem c_X8_letters {B : Bs} {w m : Wd} {z : Int} (hM : RM w m) (hp : 0 ≤ w 18 1 ∧ w 18 1 ≤ 60) : Sp (GM B) 0 yX8_letters cX8_letters 7 (Option.some FieldType.int) [.ref (ga (GM B) (0)), lq (z)] m (pI (accW (lesw w z) (lesM w m z) m) (lesw w z)) := by
  refine Sp.of (by decide) (Nat.le_of_ble_eq_true rfl) (fun X F => ?_)
  show Jw (GM B) X _ 0 [some (.ref (ga (GM B) (0))), some (lq (z)), none] [] m
  refine jr_iconst F dX8_letters_0 ?_
  refine jr_istore_n F dX8_letters_1 (Nat.le_of_ble_eq_true rfl) rfl ?_
  refine jr_iconst F dX8_letters_2 ?_
  refine jr_istore F dX8_letters_3 (Nat.le_of_ble_eq_true rfl) rfl ?_
  refine jr_iconst F dX8_letters_5 ?_
  refine jr_istore F dX8_letters_6 (Nat.le_of_ble_eq_true rfl) rfl ?_
  have L8 : ∀ (fuel : Nat) (p : Int) (t : Int) (en : Int), (8 - p).toNat < fuel → (0 ≤ p) → (p ≤ 8) → (0 ≤ t ∧ t ≤ p) → ((en = 0 ∧ t = p) ∨ (en = 1 ∧ t < p)) → (lin z 8 0 0 = lin z (8 - p).toNat p t) → Jw (GM B) X (pI (accW (lesw w z) (lesM w m z) m) (lesw w z)) 8 [some (.ref (ga (GM B) 0)), some (lq z), none, some (iv t), some (iv en), some (iv p)] [] m := by
    intro fuel
    induction fuel with
    | zero => intro p t en hfuel; exact absurd hfuel (Nat.not_lt_zero _)
    | succ fuel ih8 =>
        intro p t en hfuel h0 h1 ht he hl
        refine jr_iload F dX8_letters_8 rfl ?_
        refine jr_bipush F dX8_letters_10 (by decide) ?_
        refine jr_icmp_ge (tgt := 85) F dX8_letters_12 (by decide) (fun c12 => ?_) (fun c12 => ?_) (by omega) (by omega)
        · skip
          have hq : lin z 8 0 0 = t := by rw [hl, show (8 - p).toNat = 0 by omega, lin]
          refine jr_aload_n F dX8_letters_85 rfl ?_
          refine jr_getIx F (w 18 1) dX8_letters_86 fg_X8_140 (Nat.le_of_ble_eq_true rfl) rfl rfl ((show m 0 11 = (w 18 1) from rn11 hM)) (fun q86 => ?_)
          refine jr_iload_n F dX8_letters_89 rfl ?_
          refine jr_iadd F dX8_letters_90 ?_
          refine jr_bipush F dX8_letters_91 (by decide) ?_
          refine jr_icmp_le (tgt := 99) F dX8_letters_93 (by decide) (fun c93 => ?_) (fun c93 => ?_) (by omega) (by omega)
          · skip
            refine jr_iconst F dX8_letters_99 ?_
            refine jr_istore F dX8_letters_100 (Nat.le_of_ble_eq_true rfl) rfl ?_
            have L102 : ∀ (fuel : Nat) (u : Wd) (i : Int), (t - i).toNat < fuel → (0 ≤ i) → (i ≤ t) → (t = lin z 8 0 0 ∧ 0 ≤ t ∧ t ≤ 8) → (w 18 1 + t ≤ 60) → (u = wrM w m z i.toNat) → Jw (GM B) X (pI (accW (lesw w z) (lesM w m z) m) (lesw w z)) 102 [some (.ref (ga (GM B) 0)), some (lq z), none, some (iv t), none, some (iv i)] [] u := by
              intro fuel
              induction fuel with
              | zero => intro u i hfuel; exact absurd hfuel (Nat.not_lt_zero _)
              | succ fuel ih102 =>
                  intro u i hfuel k0 k1 ht2 hf hu
                  have u1 : u 0 11 = w 18 1 := by subst hu; rw [wrM_c w m z (by decide)]; exact rn11 hM
                  have bb := lin_b z 8 0 0 (by omega) (by omega) (fun i a b => by omega) (by omega)
                  refine jr_iload F dX8_letters_102 rfl ?_
                  refine jr_iload_n F dX8_letters_104 rfl ?_
                  refine jr_icmp_ge (tgt := 135) F dX8_letters_105 (by decide) (fun c105 => ?_) (fun c105 => ?_) (by omega) (by omega)
                  · skip
                    have it : i = t := by omega
                    refine jr_aload_n F dX8_letters_135 rfl ?_
                    refine jr_dup F dX8_letters_136 rfl ?_
                    refine jr_getIx F (w 18 1) dX8_letters_137 fg_X8_140 (Nat.le_of_ble_eq_true rfl) rfl rfl u1 (fun q137 => ?_)
                    refine jr_iload_n F dX8_letters_140 rfl ?_
                    refine jr_iadd F dX8_letters_141 ?_
                    refine jr_putIx F dX8_letters_142 fp_X8_140 (Nat.le_of_ble_eq_true rfl) rfl rfl (by omega) (fun w142 e142 => ?_)
                    refine jr_aload_n F dX8_letters_145 rfl ?_
                    refine jr_getIx F (w 18 1 + t) dX8_letters_146 fg_X8_140 (Nat.le_of_ble_eq_true rfl) rfl rfl (by subst e142; rfl) (fun q146 => ?_)
                    exact jr_iret F dX8_letters_149 (pA_y (by unfold lesw; rw [← ht2.1, if_neg (by omega), if_neg (by omega)]) (by omega) (by subst e142; subst hu; unfold lesM; rw [← ht2.1, it]; rfl))
                  · skip
                    refine jr_aload_n F dX8_letters_108 rfl ?_
                    refine jr_getR (t := 10) F dX8_letters_109 fg_X8_37 (Nat.le_of_ble_eq_true rfl) rfl rfl ?_
                    refine jr_aload_n F dX8_letters_112 rfl ?_
                    refine jr_getIx F (w 18 1) dX8_letters_113 fg_X8_140 (Nat.le_of_ble_eq_true rfl) rfl rfl u1 (fun q113 => ?_)
                    refine jr_iload F dX8_letters_116 rfl ?_
                    refine jr_iadd F dX8_letters_118 ?_
                    refine jr_lload_n F dX8_letters_119 rfl ?_
                    refine jr_bipush F dX8_letters_120 (by decide) ?_
                    refine jr_iload F dX8_letters_122 rfl ?_
                    refine jr_imul F dX8_letters_124 ?_
                    refine jr_lshr F dX8_letters_125 ?_
                    refine jr_topl (z := shv z i) F (shv_e z i (by omega)) ?_
                    refine jr_l2i F dX8_letters_126 ?_
                    refine jr_i2bx (b := (byt z i)) F dX8_letters_127 (by have := bb i k0 (by omega); exact ⟨shv_b z i (by omega), by omega⟩) ?_
                    refine jr_bastx F dX8_letters_128 (Nat.le_of_ble_eq_true rfl) rfl (by omega) (fun w128 e128 => ?_) (by omega) (by omega) (by have := bb i k0 (by omega); omega)
                    refine jr_iinc F dX8_letters_129 rfl (Nat.le_of_ble_eq_true rfl) rfl ?_
                    refine jr_goto (tgt := 102) F dX8_letters_132 (by decide) ?_
                    exact jr_sub (ih102 _ (i + 1) (by omega) (by omega) (by omega) ht2 hf (by subst e128; subst hu; rw [wrM_s k0])) ⟨rfl, rfl, rfl, rfl, trivial⟩
            exact jr_sub (L102 _ _ 0 (Nat.lt_succ_self _) (by omega) (by omega) (by omega) (by omega) rfl) ⟨rfl, rfl, rfl, rfl, trivial⟩
          · skip
            refine jr_bipush F dX8_letters_96 (by decide) ?_
            exact jr_iret F dX8_letters_98 (pA_n (by unfold lesw; rw [hq, if_neg (by omega), if_pos (by omega)]) (by omega) rfl)
        · skip
          refine jr_lload_n F dX8_letters_15 rfl ?_
          refine jr_bipush F dX8_letters_16 (by decide) ?_
          refine jr_iload F dX8_letters_18 rfl ?_
          refine jr_imul F dX8_letters_20 ?_
          refine jr_lshr F dX8_letters_21 ?_
          refine jr_topl (z := shv z p) F (shv_e z p (by omega)) ?_
          refine jr_ldc2 (z := 255) F dX8_letters_22 (tb_in 1110 (by decide +kernel) (by decide +kernel)) ?_
          refine jr_land F dX8_letters_25 ?_
          refine jr_topl (z := byt z p) F (shv_255 z p (by omega)) ?_
          have bR := byt_R z p
          refine jr_l2i F dX8_letters_26 ?_
          refine jr_istore F dX8_letters_27 (Nat.le_of_ble_eq_true rfl) rfl ?_
          refine jr_iload F dX8_letters_29 rfl ?_
          refine jr_bipush F dX8_letters_31 (by decide) ?_
          refine jr_icmp_gt (tgt := 46) F dX8_letters_33 (by decide) (fun c33 => ?_) (fun c33 => ?_) (by omega) (by omega)
          · skip
            refine jr_bipush F dX8_letters_46 (by decide) ?_
            exact jr_iret F dX8_letters_48 (pA_n (by unfold lesw; rw [hl, show (8 - p).toNat = (8 - (p + 1)).toNat + 1 by omega, lin, if_pos (by omega)]) (by omega) rfl)
          · skip
            refine jr_iload F dX8_letters_36 rfl ?_
            refine jr_if_eq (tgt := 49) F dX8_letters_38 (by decide) (fun c38 => ?_) (fun c38 => ?_) (by omega)
            · skip
              refine jr_iload F dX8_letters_49 rfl ?_
              refine jr_if_ne (tgt := 59) F dX8_letters_51 (by decide) (fun c51 => ?_) (fun c51 => ?_) (by omega)
              · skip
                refine jr_iconst F dX8_letters_59 ?_
                refine jr_goto (tgt := 64) F dX8_letters_60 (by decide) ?_
                refine jr_istore F dX8_letters_64 (Nat.le_of_ble_eq_true rfl) rfl ?_
                refine jr_iload_n F dX8_letters_66 rfl ?_
                refine jr_iload F dX8_letters_67 rfl ?_
                refine jr_if_ne (tgt := 76) F dX8_letters_69 (by decide) (fun c69 => ?_) (fun c69 => ?_) (by omega)
                · skip
                  refine jr_iconst F dX8_letters_76 ?_
                  refine jr_iadd F dX8_letters_77 ?_
                  refine jr_istore_n F dX8_letters_78 (Nat.le_of_ble_eq_true rfl) rfl ?_
                  refine jr_iinc F dX8_letters_79 rfl (Nat.le_of_ble_eq_true rfl) rfl ?_
                  refine jr_goto (tgt := 8) F dX8_letters_82 (by decide) ?_
                  first | (exfalso; omega) | exact jr_sub (ih8 (p + 1) _ _ (by omega) (by omega) (by omega) (by omega) (by omega) (by rw [hl, show (8 - p).toNat = (8 - (p + 1)).toNat + 1 by omega, lin, if_neg (by omega)]; first | rw [if_pos (by omega)] | rw [if_neg (by omega)])) ⟨rfl, rfl, rfl, rfl, rfl, trivial⟩
                · skip
                  refine jr_iconst F dX8_letters_72 ?_
                  refine jr_goto (tgt := 77) F dX8_letters_73 (by decide) ?_
                  refine jr_iadd F dX8_letters_77 ?_
                  refine jr_istore_n F dX8_letters_78 (Nat.le_of_ble_eq_true rfl) rfl ?_
                  refine jr_iinc F dX8_letters_79 rfl (Nat.le_of_ble_eq_true rfl) rfl ?_
                  refine jr_goto (tgt := 8) F dX8_letters_82 (by decide) ?_
                  first | (exfalso; omega) | exact jr_sub (ih8 (p + 1) _ _ (by omega) (by omega) (by omega) (by omega) (by omega) (by rw [hl, show (8 - p).toNat = (8 - (p + 1)).toNat + 1 by omega, lin, if_neg (by omega)]; first | rw [if_pos (by omega)] | rw [if_neg (by omega)])) ⟨rfl, rfl, rfl, rfl, rfl, trivial⟩
              · skip
                refine jr_iload F dX8_letters_54 rfl ?_
                refine jr_if_ne (tgt := 63) F dX8_letters_56 (by decide) (fun c56 => ?_) (fun c56 => ?_) (by omega)
                · skip
                  refine jr_iconst F dX8_letters_63 ?_
                  refine jr_istore F dX8_letters_64 (Nat.le_of_ble_eq_true rfl) rfl ?_
                  refine jr_iload_n F dX8_letters_66 rfl ?_
                  refine jr_iload F dX8_letters_67 rfl ?_
                  refine jr_if_ne (tgt := 76) F dX8_letters_69 (by decide) (fun c69 => ?_) (fun c69 => ?_) (by omega)
                  · skip
                    refine jr_iconst F dX8_letters_76 ?_
                    refine jr_iadd F dX8_letters_77 ?_
                    refine jr_istore_n F dX8_letters_78 (Nat.le_of_ble_eq_true rfl) rfl ?_
                    refine jr_iinc F dX8_letters_79 rfl (Nat.le_of_ble_eq_true rfl) rfl ?_
                    refine jr_goto (tgt := 8) F dX8_letters_82 (by decide) ?_
                    first | (exfalso; omega) | exact jr_sub (ih8 (p + 1) _ _ (by omega) (by omega) (by omega) (by omega) (by omega) (by rw [hl, show (8 - p).toNat = (8 - (p + 1)).toNat + 1 by omega, lin, if_neg (by omega)]; first | rw [if_pos (by omega)] | rw [if_neg (by omega)])) ⟨rfl, rfl, rfl, rfl, rfl, trivial⟩
                  · skip
                    refine jr_iconst F dX8_letters_72 ?_
                    refine jr_goto (tgt := 77) F dX8_letters_73 (by decide) ?_
                    refine jr_iadd F dX8_letters_77 ?_
                    refine jr_istore_n F dX8_letters_78 (Nat.le_of_ble_eq_true rfl) rfl ?_
                    refine jr_iinc F dX8_letters_79 rfl (Nat.le_of_ble_eq_true rfl) rfl ?_
                    refine jr_goto (tgt := 8) F dX8_letters_82 (by decide) ?_
                    first | (exfalso; omega) | exact jr_sub (ih8 (p + 1) _ _ (by omega) (by omega) (by omega) (by omega) (by omega) (by rw [hl, show (8 - p).toNat = (8 - (p + 1)).toNat + 1 by omega, lin, if_neg (by omega)]; first | rw [if_pos (by omega)] | rw [if_neg (by omega)])) ⟨rfl, rfl, rfl, rfl, rfl, trivial⟩
                · skip
                  refine jr_iconst F dX8_letters_59 ?_
                  refine jr_goto (tgt := 64) F dX8_letters_60 (by decide) ?_
                  refine jr_istore F dX8_letters_64 (Nat.le_of_ble_eq_true rfl) rfl ?_
                  refine jr_iload_n F dX8_letters_66 rfl ?_
                  refine jr_iload F dX8_letters_67 rfl ?_
                  refine jr_if_ne (tgt := 76) F dX8_letters_69 (by decide) (fun c69 => ?_) (fun c69 => ?_) (by omega)
                  · skip
                    refine jr_iconst F dX8_letters_76 ?_
                    refine jr_iadd F dX8_letters_77 ?_
                    refine jr_istore_n F dX8_letters_78 (Nat.le_of_ble_eq_true rfl) rfl ?_
                    refine jr_iinc F dX8_letters_79 rfl (Nat.le_of_ble_eq_true rfl) rfl ?_
                    refine jr_goto (tgt := 8) F dX8_letters_82 (by decide) ?_
                    first | (exfalso; omega) | exact jr_sub (ih8 (p + 1) _ _ (by omega) (by omega) (by omega) (by omega) (by omega) (by rw [hl, show (8 - p).toNat = (8 - (p + 1)).toNat + 1 by omega, lin, if_neg (by omega)]; first | rw [if_pos (by omega)] | rw [if_neg (by omega)])) ⟨rfl, rfl, rfl, rfl, rfl, trivial⟩
                  · skip
                    refine jr_iconst F dX8_letters_72 ?_
                    refine jr_goto (tgt := 77) F dX8_letters_73 (by decide) ?_
                    refine jr_iadd F dX8_letters_77 ?_
                    refine jr_istore_n F dX8_letters_78 (Nat.le_of_ble_eq_true rfl) rfl ?_
                    refine jr_iinc F dX8_letters_79 rfl (Nat.le_of_ble_eq_true rfl) rfl ?_
                    refine jr_goto (tgt := 8) F dX8_letters_82 (by decide) ?_
                    first | (exfalso; omega) | exact jr_sub (ih8 (p + 1) _ _ (by omega) (by omega) (by omega) (by omega) (by omega) (by rw [hl, show (8 - p).toNat = (8 - (p + 1)).toNat + 1 by omega, lin, if_neg (by omega)]; first | rw [if_pos (by omega)] | rw [if_neg (by omega)])) ⟨rfl, rfl, rfl, rfl, rfl, trivial⟩
            · skip
              refine jr_iload F dX8_letters_41 rfl ?_
              refine jr_if_eq (tgt := 49) F dX8_letters_43 (by decide) (fun c43 => ?_) (fun c43 => ?_) (by omega)
              · skip
                refine jr_iload F dX8_letters_49 rfl ?_
                refine jr_if_ne (tgt := 59) F dX8_letters_51 (by decide) (fun c51 => ?_) (fun c51 => ?_) (by omega)
                · skip
                  refine jr_iconst F dX8_letters_59 ?_
                  refine jr_goto (tgt := 64) F dX8_letters_60 (by decide) ?_
                  refine jr_istore F dX8_letters_64 (Nat.le_of_ble_eq_true rfl) rfl ?_
                  refine jr_iload_n F dX8_letters_66 rfl ?_
                  refine jr_iload F dX8_letters_67 rfl ?_
                  refine jr_if_ne (tgt := 76) F dX8_letters_69 (by decide) (fun c69 => ?_) (fun c69 => ?_) (by omega)
                  · skip
                    refine jr_iconst F dX8_letters_76 ?_
                    refine jr_iadd F dX8_letters_77 ?_
                    refine jr_istore_n F dX8_letters_78 (Nat.le_of_ble_eq_true rfl) rfl ?_
                    refine jr_iinc F dX8_letters_79 rfl (Nat.le_of_ble_eq_true rfl) rfl ?_
                    refine jr_goto (tgt := 8) F dX8_letters_82 (by decide) ?_
                    first | (exfalso; omega) | exact jr_sub (ih8 (p + 1) _ _ (by omega) (by omega) (by omega) (by omega) (by omega) (by rw [hl, show (8 - p).toNat = (8 - (p + 1)).toNat + 1 by omega, lin, if_neg (by omega)]; first | rw [if_pos (by omega)] | rw [if_neg (by omega)])) ⟨rfl, rfl, rfl, rfl, rfl, trivial⟩
                  · skip
                    refine jr_iconst F dX8_letters_72 ?_
                    refine jr_goto (tgt := 77) F dX8_letters_73 (by decide) ?_
                    refine jr_iadd F dX8_letters_77 ?_
                    refine jr_istore_n F dX8_letters_78 (Nat.le_of_ble_eq_true rfl) rfl ?_
                    refine jr_iinc F dX8_letters_79 rfl (Nat.le_of_ble_eq_true rfl) rfl ?_
                    refine jr_goto (tgt := 8) F dX8_letters_82 (by decide) ?_
                    first | (exfalso; omega) | exact jr_sub (ih8 (p + 1) _ _ (by omega) (by omega) (by omega) (by omega) (by omega) (by rw [hl, show (8 - p).toNat = (8 - (p + 1)).toNat + 1 by omega, lin, if_neg (by omega)]; first | rw [if_pos (by omega)] | rw [if_neg (by omega)])) ⟨rfl, rfl, rfl, rfl, rfl, trivial⟩
                · skip
                  refine jr_iload F dX8_letters_54 rfl ?_
                  refine jr_if_ne (tgt := 63) F dX8_letters_56 (by decide) (fun c56 => ?_) (fun c56 => ?_) (by omega)
                  · skip
                    refine jr_iconst F dX8_letters_63 ?_
                    refine jr_istore F dX8_letters_64 (Nat.le_of_ble_eq_true rfl) rfl ?_
                    refine jr_iload_n F dX8_letters_66 rfl ?_
                    refine jr_iload F dX8_letters_67 rfl ?_
                    refine jr_if_ne (tgt := 76) F dX8_letters_69 (by decide) (fun c69 => ?_) (fun c69 => ?_) (by omega)
                    · skip
                      refine jr_iconst F dX8_letters_76 ?_
                      refine jr_iadd F dX8_letters_77 ?_
                      refine jr_istore_n F dX8_letters_78 (Nat.le_of_ble_eq_true rfl) rfl ?_
                      refine jr_iinc F dX8_letters_79 rfl (Nat.le_of_ble_eq_true rfl) rfl ?_
                      refine jr_goto (tgt := 8) F dX8_letters_82 (by decide) ?_
                      first | (exfalso; omega) | exact jr_sub (ih8 (p + 1) _ _ (by omega) (by omega) (by omega) (by omega) (by omega) (by rw [hl, show (8 - p).toNat = (8 - (p + 1)).toNat + 1 by omega, lin, if_neg (by omega)]; first | rw [if_pos (by omega)] | rw [if_neg (by omega)])) ⟨rfl, rfl, rfl, rfl, rfl, trivial⟩
                    · skip
                      refine jr_iconst F dX8_letters_72 ?_
                      refine jr_goto (tgt := 77) F dX8_letters_73 (by decide) ?_
                      refine jr_iadd F dX8_letters_77 ?_
                      refine jr_istore_n F dX8_letters_78 (Nat.le_of_ble_eq_true rfl) rfl ?_
                      refine jr_iinc F dX8_letters_79 rfl (Nat.le_of_ble_eq_true rfl) rfl ?_
                      refine jr_goto (tgt := 8) F dX8_letters_82 (by decide) ?_
                      first | (exfalso; omega) | exact jr_sub (ih8 (p + 1) _ _ (by omega) (by omega) (by omega) (by omega) (by omega) (by rw [hl, show (8 - p).toNat = (8 - (p + 1)).toNat + 1 by omega, lin, if_neg (by omega)]; first | rw [if_pos (by omega)] | rw [if_neg (by omega)])) ⟨rfl, rfl, rfl, rfl, rfl, trivial⟩
                  · skip
                    refine jr_iconst F dX8_letters_59 ?_
                    refine jr_goto (tgt := 64) F dX8_letters_60 (by decide) ?_
                    refine jr_istore F dX8_letters_64 (Nat.le_of_ble_eq_true rfl) rfl ?_
                    refine jr_iload_n F dX8_letters_66 rfl ?_
                    refine jr_iload F dX8_letters_67 rfl ?_
                    refine jr_if_ne (tgt := 76) F dX8_letters_69 (by decide) (fun c69 => ?_) (fun c69 => ?_) (by omega)
                    · skip
                      refine jr_iconst F dX8_letters_76 ?_
                      refine jr_iadd F dX8_letters_77 ?_
                      refine jr_istore_n F dX8_letters_78 (Nat.le_of_ble_eq_true rfl) rfl ?_
                      refine jr_iinc F dX8_letters_79 rfl (Nat.le_of_ble_eq_true rfl) rfl ?_
                      refine jr_goto (tgt := 8) F dX8_letters_82 (by decide) ?_
                      first | (exfalso; omega) | exact jr_sub (ih8 (p + 1) _ _ (by omega) (by omega) (by omega) (by omega) (by omega) (by rw [hl, show (8 - p).toNat = (8 - (p + 1)).toNat + 1 by omega, lin, if_neg (by omega)]; first | rw [if_pos (by omega)] | rw [if_neg (by omega)])) ⟨rfl, rfl, rfl, rfl, rfl, trivial⟩
                    · skip
                      refine jr_iconst F dX8_letters_72 ?_
                      refine jr_goto (tgt := 77) F dX8_letters_73 (by decide) ?_
                      refine jr_iadd F dX8_letters_77 ?_
                      refine jr_istore_n F dX8_letters_78 (Nat.le_of_ble_eq_true rfl) rfl ?_
                      refine jr_iinc F dX8_letters_79 rfl (Nat.le_of_ble_eq_true rfl) rfl ?_
                      refine jr_goto (tgt := 8) F dX8_letters_82 (by decide) ?_
                      first | (exfalso; omega) | exact jr_sub (ih8 (p + 1) _ _ (by omega) (by omega) (by omega) (by omega) (by omega) (by rw [hl, show (8 - p).toNat = (8 - (p + 1)).toNat + 1 by omega, lin, if_neg (by omega)]; first | rw [if_pos (by omega)] | rw [if_neg (by omega)])) ⟨rfl, rfl, rfl, rfl, rfl, trivial⟩
              · skip
                refine jr_bipush F dX8_letters_46 (by decide) ?_
                exact jr_iret F dX8_letters_48 (pA_n (by unfold lesw; rw [hl, show (8 - p).toNat = (8 - (p + 1)).toNat + 1 by omega, lin, if_pos (by omega)]) (by omega) rfl)
  exact jr_sub (L8 _ 0 0 0 (Nat.lt_succ_self _) (by omega) (by omega) (by omega) (by omega) rfl) ⟨rfl, rfl, rfl, rfl, rfl, trivial⟩

set_option maxRecDepth 100000 in
set_option maxHeartbeats 4000000 in
theorem c_X8_isName {B : Bs} {m : Wd} {c : Int} (hc : inR c) : Sp (GM B) 0 yX8_isName cX8_isName 1 (Option.some FieldType.boolean) [iv (c)] m (pI m (bi (c = 108 ∨ c = 107 ∨ c = 110 ∨ c = 114))) := by
  refine Sp.of (by decide) (Nat.le_of_ble_eq_true rfl) (fun X F => ?_)
  show Jw (GM B) X _ 0 [some (iv (c))] [] m
  refine jr_iload_n F dX8_isName_0 rfl ?_
  refine jr_bipush F dX8_isName_1 (by decide) ?_
  refine jr_icmp_eq (tgt := 24) F dX8_isName_3 (by decide) (fun c3 => ?_) (fun c3 => ?_) (by omega) (by omega)
  · skip
    refine jr_iconst F dX8_isName_24 ?_
    refine jr_goto (tgt := 29) F dX8_isName_25 (by decide) ?_
    exact jr_zret F dX8_isName_29 (pI_of (bi_t (by omega)).symm rfl) (by omega)
  · skip
    refine jr_iload_n F dX8_isName_6 rfl ?_
    refine jr_bipush F dX8_isName_7 (by decide) ?_
    refine jr_icmp_eq (tgt := 24) F dX8_isName_9 (by decide) (fun c9 => ?_) (fun c9 => ?_) (by omega) (by omega)
    · skip
      refine jr_iconst F dX8_isName_24 ?_
      refine jr_goto (tgt := 29) F dX8_isName_25 (by decide) ?_
      exact jr_zret F dX8_isName_29 (pI_of (bi_t (by omega)).symm rfl) (by omega)
    · skip
      refine jr_iload_n F dX8_isName_12 rfl ?_
      refine jr_bipush F dX8_isName_13 (by decide) ?_
      refine jr_icmp_eq (tgt := 24) F dX8_isName_15 (by decide) (fun c15 => ?_) (fun c15 => ?_) (by omega) (by omega)
      · skip
        refine jr_iconst F dX8_isName_24 ?_
        refine jr_goto (tgt := 29) F dX8_isName_25 (by decide) ?_
        exact jr_zret F dX8_isName_29 (pI_of (bi_t (by omega)).symm rfl) (by omega)
      · skip
        refine jr_iload_n F dX8_isName_18 rfl ?_
        refine jr_bipush F dX8_isName_19 (by decide) ?_
        refine jr_icmp_ne (tgt := 28) F dX8_isName_21 (by decide) (fun c21 => ?_) (fun c21 => ?_) (by omega) (by omega)
        · skip
          refine jr_iconst F dX8_isName_28 ?_
          exact jr_zret F dX8_isName_29 (pI_of (bi_f (by omega)).symm rfl) (by omega)
        · skip
          refine jr_iconst F dX8_isName_24 ?_
          refine jr_goto (tgt := 29) F dX8_isName_25 (by decide) ?_
          exact jr_zret F dX8_isName_29 (pI_of (bi_t (by omega)).symm rfl) (by omega)

