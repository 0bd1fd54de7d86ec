noncomputable def ska (w : Wd) (t : Int) : Int := cnq (fun t => tfa w t 0 = 1) t.toNat
noncomputable def whc (w : Wd) (c t : Int) : Int := if ska w t = 0 then c / 8 % 3 else c / 24
theorem whc_R {c : Int} (hc : 0 ≤ c ∧ c < 72) (w : Wd) (t : Int) : 0 ≤ whc w c t ∧ whc w c t < 3 := by unfold whc; split <;> omega
/-- what a believed tie asks of a choice's years -/
def TC (w : Wd) (c t : Int) (v : Int → Int) : Prop := (tfa w t 0 = 0 ∧ tfa w t 4 - tfa w t 2 - tfa w t 5 ≤ v (tfa w t 1) - v (tfa w t 3) ∧ v (tfa w t 1) - v (tfa w t 3) ≤ tfa w t 4 - tfa w t 2 + tfa w t 5) ∨ (tfa w t 0 = 1 ∧ tyr w t (whc w c t) - tfa w t 2 + 1 ≤ v (tfa w t 1) - v 10 ∧ v (tfa w t 1) - v 10 ≤ tyr w t (whc w c t) - tfa w t 2 + 1) ∨ (tfa w t 0 = 2 ∧ tyr w t 0 - tfa w t 2 + 1 ≤ v (tfa w t 1) - v 10 ∧ v (tfa w t 1) - v 10 ≤ 1000000) ∨ (tfa w t 0 = 3 ∧ -1000000 ≤ v (tfa w t 1) - v (tfa w t 3) ∧ v (tfa w t 1) - v (tfa w t 3) ≤ tfa w t 4 - tfa w t 2)
def TQ (w m : Wd) (c t : Int) (u : Wd) : Prop := c19 m u ∧ (MB (mm m) → MB (mm u)) ∧ ∀ v, Sat 11 (mm u) v ↔ Sat 11 (mm m) v ∧ TC w c t v
theorem TQ_of {w m : Wd} {c t f p l g : Int} (f0 : 0 ≤ f) (f1 : f < 11) (t0 : 0 ≤ p) (t1 : p < 11) (ne : ¬ f = p) (hl : l ≤ 3000) (hg : -3000 ≤ g) (h : ∀ v : Int → Int, TC w c t v ↔ l ≤ v p - v f ∧ v p - v f ≤ g) : TQ w m c t (bdw m f p l g) := ⟨bdw_c _ _ _ _ _, bdw_B f0 f1 t0 t1 ne hl hg, fun v => by rw [bdw_S f0 f1 t0 t1 ne, h v]⟩

set_option maxRecDepth 100000 in
set_option maxHeartbeats 4000000 in
theorem c_X8_layTie {B : Bs} {w m : Wd} {t c : Int} (hM : RM w m) (hs : smT w t) (hc : 0 ≤ c ∧ c < 72) (hk : 0 ≤ tfa w t 0 ∧ tfa w t 0 ≤ 3) (ha : 0 ≤ tfa w t 1 ∧ tfa w t 1 < 10) (hb : (tfa w t 0 = 1 ∨ tfa w t 0 = 2) ∨ (0 ≤ tfa w t 3 ∧ tfa w t 3 < 10 ∧ ¬ tfa w t 1 = tfa w t 3)) : Sp (GM B) 1 yX8_layTie cX8_layTie 11 (Option.none : Option FieldType) [.ref (ga (GM B) (0)), iv (t), iv (c)] m (pU (TQ w m c t)) := by
  refine Sp.of (by decide) (Nat.le_of_ble_eq_true rfl) (fun X F => ?_)
  have t0 := hs.1
  have t1 := hs.2.1
  have g0 := hs.2.2.1 0 (by omega) (by omega)
  have g1 := hs.2.2.1 1 (by omega) (by omega)
  have g2 := hs.2.2.1 2 (by omega) (by omega)
  have g3 := hs.2.2.1 3 (by omega) (by omega)
  have g4 := hs.2.2.1 4 (by omega) (by omega)
  have g5 := hs.2.2.1 5 (by omega) (by omega)
  have y0 := hs.2.2.2 0 (by omega) (by omega)
  have y1 := hs.2.2.2 1 (by omega) (by omega)
  have y2 := hs.2.2.2 2 (by omega) (by omega)
  show Jw (GM B) X _ 0 [some (.ref (ga (GM B) (0))), some (iv (t)), some (iv (c))] [] m
  refine jr_aload_n F dX8_layTie_0 rfl ?_
  refine jr_getR (t := 8) F dX8_layTie_1 fg_X8_31 (Nat.le_of_ble_eq_true rfl) rfl rfl ?_
  refine jr_bipush F dX8_layTie_4 (by decide) ?_
  refine jr_iload_n F dX8_layTie_6 rfl ?_
  refine jr_imul F dX8_layTie_7 ?_
  refine jr_iconst F dX8_layTie_8 ?_
  refine jr_iadd F dX8_layTie_9 ?_
  refine jr_iald F dX8_layTie_10 (Nat.le_of_ble_eq_true rfl) rfl (by omega) (fun q10 => ?_) (by omega) (by omega)
  have v10 : m 8 (((7 * t) + 1)) = (tfa w t 1) := (rmT hM (t := t) (f := 1) (by omega) (by omega) (by omega) (by omega))
  rw [v10] at q10
  refine jr_ti v10 ?_
  refine jr_istore_n F dX8_layTie_11 (Nat.le_of_ble_eq_true rfl) rfl ?_
  refine jr_aload_n F dX8_layTie_12 rfl ?_
  refine jr_getR (t := 8) F dX8_layTie_13 fg_X8_31 (Nat.le_of_ble_eq_true rfl) rfl rfl ?_
  refine jr_bipush F dX8_layTie_16 (by decide) ?_
  refine jr_iload_n F dX8_layTie_18 rfl ?_
  refine jr_imul F dX8_layTie_19 ?_
  refine jr_iconst F dX8_layTie_20 ?_
  refine jr_iadd F dX8_layTie_21 ?_
  refine jr_iald F dX8_layTie_22 (Nat.le_of_ble_eq_true rfl) rfl (by omega) (fun q22 => ?_) (by omega) (by omega)
  have v22 : m 8 (((7 * t) + 2)) = (tfa w t 2) := (rmT hM (t := t) (f := 2) (by omega) (by omega) (by omega) (by omega))
  rw [v22] at q22
  refine jr_ti v22 ?_
  refine jr_istore F dX8_layTie_23 (Nat.le_of_ble_eq_true rfl) rfl ?_
  refine jr_aload_n F dX8_layTie_25 rfl ?_
  refine jr_getR (t := 8) F dX8_layTie_26 fg_X8_31 (Nat.le_of_ble_eq_true rfl) rfl rfl ?_
  refine jr_bipush F dX8_layTie_29 (by decide) ?_
  refine jr_iload_n F dX8_layTie_31 rfl ?_
  refine jr_imul F dX8_layTie_32 ?_
  refine jr_iconst F dX8_layTie_33 ?_
  refine jr_iadd F dX8_layTie_34 ?_
  refine jr_iald F dX8_layTie_35 (Nat.le_of_ble_eq_true rfl) rfl (by omega) (fun q35 => ?_) (by omega) (by omega)
  have v35 : m 8 (((7 * t) + 3)) = (tfa w t 3) := (rmT hM (t := t) (f := 3) (by omega) (by omega) (by omega) (by omega))
  rw [v35] at q35
  refine jr_ti v35 ?_
  refine jr_istore F dX8_layTie_36 (Nat.le_of_ble_eq_true rfl) rfl ?_
  refine jr_aload_n F dX8_layTie_38 rfl ?_
  refine jr_getR (t := 8) F dX8_layTie_39 fg_X8_31 (Nat.le_of_ble_eq_true rfl) rfl rfl ?_
  refine jr_bipush F dX8_layTie_42 (by decide) ?_
  refine jr_iload_n F dX8_layTie_44 rfl ?_
  refine jr_imul F dX8_layTie_45 ?_
  refine jr_iconst F dX8_layTie_46 ?_
  refine jr_iadd F dX8_layTie_47 ?_
  refine jr_iald F dX8_layTie_48 (Nat.le_of_ble_eq_true rfl) rfl (by omega) (fun q48 => ?_) (by omega) (by omega)
  have v48 : m 8 (((7 * t) + 4)) = (tfa w t 4) := (rmT hM (t := t) (f := 4) (by omega) (by omega) (by omega) (by omega))
  rw [v48] at q48
  refine jr_ti v48 ?_
  refine jr_istore F dX8_layTie_49 (Nat.le_of_ble_eq_true rfl) rfl ?_
  refine jr_aload_n F dX8_layTie_51 rfl ?_
  refine jr_getR (t := 8) F dX8_layTie_52 fg_X8_31 (Nat.le_of_ble_eq_true rfl) rfl rfl ?_
  refine jr_bipush F dX8_layTie_55 (by decide) ?_
  refine jr_iload_n F dX8_layTie_57 rfl ?_
  refine jr_imul F dX8_layTie_58 ?_
  refine jr_iconst F dX8_layTie_59 ?_
  refine jr_iadd F dX8_layTie_60 ?_
  refine jr_iald F dX8_layTie_61 (Nat.le_of_ble_eq_true rfl) rfl (by omega) (fun q61 => ?_) (by omega) (by omega)
  have v61 : m 8 (((7 * t) + 5)) = (tfa w t 5) := (rmT hM (t := t) (f := 5) (by omega) (by omega) (by omega) (by omega))
  rw [v61] at q61
  refine jr_ti v61 ?_
  refine jr_istore F dX8_layTie_62 (Nat.le_of_ble_eq_true rfl) rfl ?_
  refine jr_aload_n F dX8_layTie_64 rfl ?_
  refine jr_getR (t := 8) F dX8_layTie_65 fg_X8_31 (Nat.le_of_ble_eq_true rfl) rfl rfl ?_
  refine jr_bipush F dX8_layTie_68 (by decide) ?_
  refine jr_iload_n F dX8_layTie_70 rfl ?_
  refine jr_imul F dX8_layTie_71 ?_
  refine jr_iald F dX8_layTie_72 (Nat.le_of_ble_eq_true rfl) rfl (by omega) (fun q72 => ?_) (by omega) (by omega)
  have v72 : m 8 ((7 * t)) = (tfa w t 0) := (rmT0 hM (t := t) (by omega) (by omega))
  rw [v72] at q72
  refine jr_ti v72 ?_
  rcases (show (tfa w t 0) = 0 ∨ (tfa w t 0) = 1 ∨ (tfa w t 0) = 2 ∨ ((tfa w t 0) < 0 ∨ 2 < (tfa w t 0)) by omega) with c73 | c73 | c73 | c73
  · refine jr_tsIn (tgt := 100) F (0) dX8_layTie_73 c73 (by omega) (by omega) rfl (by decide) (by omega) ?_
    refine jr_aload_n F dX8_layTie_100 rfl ?_
    refine jr_iload F dX8_layTie_101 rfl ?_
    refine jr_iload_n F dX8_layTie_103 rfl ?_
    refine jr_iload F dX8_layTie_104 rfl ?_
    refine jr_iload F dX8_layTie_106 rfl ?_
    refine jr_isub F dX8_layTie_108 ?_
    refine jr_iload F dX8_layTie_109 rfl ?_
    refine jr_isub F dX8_layTie_111 ?_
    refine jr_iload F dX8_layTie_112 rfl ?_
    refine jr_iload F dX8_layTie_114 rfl ?_
    refine jr_isub F dX8_layTie_116 ?_
    refine jr_iload F dX8_layTie_117 rfl ?_
    refine jr_iadd F dX8_layTie_119 ?_
    refine jr_vVx F dX8_layTie_120 cv_X8_193 (c_X8_bind (by omega) (by omega) (by omega) (by omega)) (Nat.le_of_ble_eq_true rfl) rfl rfl rfl rfl (Nat.le_of_ble_eq_true rfl) (Nat.le_of_ble_eq_true rfl) rfl (Nat.le_of_ble_eq_true rfl) (fun w120 e120 => ?_)
    refine jr_goto (tgt := 264) F dX8_layTie_123 (by decide) ?_
    first | exact jr_vret F dX8_layTie_264 ⟨rfl, by subst e120; exact (TQ_of (f := (tfa w t 3)) (p := (tfa w t 1)) (by omega) (by omega) (by omega) (by omega) (by omega) (by omega) (by omega) (fun v => by unfold TC; constructor; (intro q; omega); (intro q; omega)))⟩ | exact jr_vret F dX8_layTie_264 ⟨rfl, by subst e120; exact (TQ_of (f := 10) (p := (tfa w t 1)) (by omega) (by omega) (by omega) (by omega) (by omega) (by omega) (by omega) (fun v => by unfold TC; rw [wq2]; constructor; (intro q; omega); (intro q; omega)))⟩ | exact jr_vret F dX8_layTie_264 ⟨rfl, by subst e120; exact (TQ_of (f := 10) (p := (tfa w t 1)) (by omega) (by omega) (by omega) (by omega) (by omega) (by omega) (by omega) (fun v => by unfold TC; constructor; (intro q; omega); (intro q; omega)))⟩
  · refine jr_tsIn (tgt := 126) F (1) dX8_layTie_73 c73 (by omega) (by omega) rfl (by decide) (by omega) ?_
    refine jr_iconst F dX8_layTie_126 ?_
    refine jr_istore F dX8_layTie_127 (Nat.le_of_ble_eq_true rfl) rfl ?_
    refine jr_iconst F dX8_layTie_129 ?_
    refine jr_istore F dX8_layTie_130 (Nat.le_of_ble_eq_true rfl) rfl ?_
    have L132 : ∀ (fuel : Nat) (i : Int) (z : Int), (t - i).toNat < fuel → (0 ≤ i) → (i ≤ t) → (tfa w t 0 = 1) → (z = ska w i) → Jw (GM B) X (pU (TQ w m c t)) 132 [some (.ref (ga (GM B) 0)), some (iv t), some (iv c), some (iv (tfa w t 1)), some (iv (tfa w t 2)), some (iv (tfa w t 3)), some (iv (tfa w t 4)), some (iv (tfa w t 5)), some (iv z), some (iv i)] [] m := by
      intro fuel
      induction fuel with
      | zero => intro i z hfuel; exact absurd hfuel (Nat.not_lt_zero _)
      | succ fuel ih132 =>
          intro i z hfuel i0 i1 s1 hz
          have zR := cnq_R2 (P := fun t => tfa w t 0 = 1) i0 (show i ≤ 8 by omega)
          have zR2 : 0 ≤ ska w i ∧ ska w i ≤ 8 := zR
          refine jr_iload F dX8_layTie_132 rfl ?_
          refine jr_iload_n F dX8_layTie_134 rfl ?_
          refine jr_icmp_ge (tgt := 168) F dX8_layTie_135 (by decide) (fun c135 => ?_) (fun c135 => ?_) (by omega) (by omega)
          · skip
            have it : i = t := by omega
            rw [it] at hz zR2
            refine jr_iload F dX8_layTie_168 rfl ?_
            refine jr_if_ne (tgt := 182) F dX8_layTie_170 (by decide) (fun c170 => ?_) (fun c170 => ?_) (by omega)
            · skip
              refine jr_iload_n F dX8_layTie_182 rfl ?_
              refine jr_bipush F dX8_layTie_183 (by decide) ?_
              refine jr_idiv F dX8_layTie_185 (by omega) (by omega) (by omega) (by omega) ?_
              refine jr_istore F dX8_layTie_186 (Nat.le_of_ble_eq_true rfl) rfl ?_
              refine jr_aload_n F dX8_layTie_188 rfl ?_
              refine jr_getR (t := 9) F dX8_layTie_189 fg_X8_34 (Nat.le_of_ble_eq_true rfl) rfl rfl ?_
              refine jr_iconst F dX8_layTie_192 ?_
              refine jr_iload_n F dX8_layTie_193 rfl ?_
              refine jr_imul F dX8_layTie_194 ?_
              refine jr_iload F dX8_layTie_195 rfl ?_
              refine jr_iadd F dX8_layTie_197 ?_
              refine jr_iald F dX8_layTie_198 (Nat.le_of_ble_eq_true rfl) rfl (by omega) (fun q198 => ?_) (by omega) (by omega)
              refine jr_ti (b := (tyr w t (c / 24))) (rmY hM (by omega) (by omega) (by omega) (by omega)) ?_
              have yq := hs.2.2.2 (c / 24) (by omega) (by omega)
              have wq2 : whc w c t = c / 24 := by unfold whc; rw [if_neg (by omega)]
              refine jr_istore F dX8_layTie_199 (Nat.le_of_ble_eq_true rfl) rfl ?_
              refine jr_aload_n F dX8_layTie_201 rfl ?_
              refine jr_bipush F dX8_layTie_202 (by decide) ?_
              refine jr_iload_n F dX8_layTie_204 rfl ?_
              refine jr_iload F dX8_layTie_205 rfl ?_
              refine jr_iload F dX8_layTie_207 rfl ?_
              refine jr_isub F dX8_layTie_209 ?_
              refine jr_iconst F dX8_layTie_210 ?_
              refine jr_iadd F dX8_layTie_211 ?_
              refine jr_iload F dX8_layTie_212 rfl ?_
              refine jr_iload F dX8_layTie_214 rfl ?_
              refine jr_isub F dX8_layTie_216 ?_
              refine jr_iconst F dX8_layTie_217 ?_
              refine jr_iadd F dX8_layTie_218 ?_
              refine jr_vVx F dX8_layTie_219 cv_X8_193 (c_X8_bind (by omega) (by omega) (by omega) (by omega)) (Nat.le_of_ble_eq_true rfl) rfl rfl rfl rfl (Nat.le_of_ble_eq_true rfl) (Nat.le_of_ble_eq_true rfl) rfl (Nat.le_of_ble_eq_true rfl) (fun w219 e219 => ?_)
              refine jr_goto (tgt := 264) F dX8_layTie_222 (by decide) ?_
              first | exact jr_vret F dX8_layTie_264 ⟨rfl, by subst e219; exact (TQ_of (f := (tfa w t 3)) (p := (tfa w t 1)) (by omega) (by omega) (by omega) (by omega) (by omega) (by omega) (by omega) (fun v => by unfold TC; constructor; (intro q; omega); (intro q; omega)))⟩ | exact jr_vret F dX8_layTie_264 ⟨rfl, by subst e219; exact (TQ_of (f := 10) (p := (tfa w t 1)) (by omega) (by omega) (by omega) (by omega) (by omega) (by omega) (by omega) (fun v => by unfold TC; rw [wq2]; constructor; (intro q; omega); (intro q; omega)))⟩ | exact jr_vret F dX8_layTie_264 ⟨rfl, by subst e219; exact (TQ_of (f := 10) (p := (tfa w t 1)) (by omega) (by omega) (by omega) (by omega) (by omega) (by omega) (by omega) (fun v => by unfold TC; constructor; (intro q; omega); (intro q; omega)))⟩
            · skip
              refine jr_iload_n F dX8_layTie_173 rfl ?_
              refine jr_bipush F dX8_layTie_174 (by decide) ?_
              refine jr_idiv F dX8_layTie_176 (by omega) (by omega) (by omega) (by omega) ?_
              refine jr_iconst F dX8_layTie_177 ?_
              refine jr_irem F dX8_layTie_178 (by omega) (by omega) (by omega) (by omega) ?_
              refine jr_goto (tgt := 186) F dX8_layTie_179 (by decide) ?_
              refine jr_istore F dX8_layTie_186 (Nat.le_of_ble_eq_true rfl) rfl ?_
              refine jr_aload_n F dX8_layTie_188 rfl ?_
              refine jr_getR (t := 9) F dX8_layTie_189 fg_X8_34 (Nat.le_of_ble_eq_true rfl) rfl rfl ?_
              refine jr_iconst F dX8_layTie_192 ?_
              refine jr_iload_n F dX8_layTie_193 rfl ?_
              refine jr_imul F dX8_layTie_194 ?_
              refine jr_iload F dX8_layTie_195 rfl ?_
              refine jr_iadd F dX8_layTie_197 ?_
              refine jr_iald F dX8_layTie_198 (Nat.le_of_ble_eq_true rfl) rfl (by omega) (fun q198 => ?_) (by omega) (by omega)
              refine jr_ti (b := (tyr w t (c / 8 % 3))) (rmY hM (by omega) (by omega) (by omega) (by omega)) ?_
              have yq := hs.2.2.2 (c / 8 % 3) (by omega) (by omega)
              have wq2 : whc w c t = c / 8 % 3 := by unfold whc; rw [if_pos (by omega)]
              refine jr_istore F dX8_layTie_199 (Nat.le_of_ble_eq_true rfl) rfl ?_
              refine jr_aload_n F dX8_layTie_201 rfl ?_
              refine jr_bipush F dX8_layTie_202 (by decide) ?_
              refine jr_iload_n F dX8_layTie_204 rfl ?_
              refine jr_iload F dX8_layTie_205 rfl ?_
              refine jr_iload F dX8_layTie_207 rfl ?_
              refine jr_isub F dX8_layTie_209 ?_
              refine jr_iconst F dX8_layTie_210 ?_
              refine jr_iadd F dX8_layTie_211 ?_
              refine jr_iload F dX8_layTie_212 rfl ?_
              refine jr_iload F dX8_layTie_214 rfl ?_
              refine jr_isub F dX8_layTie_216 ?_
              refine jr_iconst F dX8_layTie_217 ?_
              refine jr_iadd F dX8_layTie_218 ?_
              refine jr_vVx F dX8_layTie_219 cv_X8_193 (c_X8_bind (by omega) (by omega) (by omega) (by omega)) (Nat.le_of_ble_eq_true rfl) rfl rfl rfl rfl (Nat.le_of_ble_eq_true rfl) (Nat.le_of_ble_eq_true rfl) rfl (Nat.le_of_ble_eq_true rfl) (fun w219_1 e219_1 => ?_)
              refine jr_goto (tgt := 264) F dX8_layTie_222 (by decide) ?_
              first | exact jr_vret F dX8_layTie_264 ⟨rfl, by subst e219_1; exact (TQ_of (f := (tfa w t 3)) (p := (tfa w t 1)) (by omega) (by omega) (by omega) (by omega) (by omega) (by omega) (by omega) (fun v => by unfold TC; constructor; (intro q; omega); (intro q; omega)))⟩ | exact jr_vret F dX8_layTie_264 ⟨rfl, by subst e219_1; exact (TQ_of (f := 10) (p := (tfa w t 1)) (by omega) (by omega) (by omega) (by omega) (by omega) (by omega) (by omega) (fun v => by unfold TC; rw [wq2]; constructor; (intro q; omega); (intro q; omega)))⟩ | exact jr_vret F dX8_layTie_264 ⟨rfl, by subst e219_1; exact (TQ_of (f := 10) (p := (tfa w t 1)) (by omega) (by omega) (by omega) (by omega) (by omega) (by omega) (by omega) (fun v => by unfold TC; constructor; (intro q; omega); (intro q; omega)))⟩
          · skip
            refine jr_iload F dX8_layTie_138 rfl ?_
            refine jr_aload_n F dX8_layTie_140 rfl ?_
            refine jr_getR (t := 8) F dX8_layTie_141 fg_X8_31 (Nat.le_of_ble_eq_true rfl) rfl rfl ?_
            refine jr_bipush F dX8_layTie_144 (by decide) ?_
            refine jr_iload F dX8_layTie_146 rfl ?_
            refine jr_imul F dX8_layTie_148 ?_
            refine jr_iald F dX8_layTie_149 (Nat.le_of_ble_eq_true rfl) rfl (by omega) (fun q149 => ?_) (by omega) (by omega)
            have v149 : m 8 ((7 * i)) = (tfa w i 0) := (rmT0 hM (t := i) (by omega) (by omega))
            rw [v149] at q149
            refine jr_ti v149 ?_
            refine jr_iconst F dX8_layTie_150 ?_
            refine jr_icmp_ne (tgt := 158) F dX8_layTie_151 (by decide) (fun c151 => ?_) (fun c151 => ?_) (by omega) (by omega)
            · skip
              refine jr_iconst F dX8_layTie_158 ?_
              refine jr_iadd F dX8_layTie_159 ?_
              refine jr_istore F dX8_layTie_160 (Nat.le_of_ble_eq_true rfl) rfl ?_
              refine jr_iinc F dX8_layTie_162 rfl (Nat.le_of_ble_eq_true rfl) rfl ?_
              refine jr_goto (tgt := 132) F dX8_layTie_165 (by decide) ?_
              exact jr_sub (ih132 (i + 1) _ (by omega) (by omega) (by omega) s1 (by unfold ska at hz ⊢; first | (rw [cnq_n i0 (by assumption), hz]; omega) | (rw [cnq_y i0 (by assumption), hz]))) ⟨rfl, rfl, rfl, rfl, rfl, rfl, rfl, rfl, rfl, rfl, trivial⟩
            · skip
              refine jr_iconst F dX8_layTie_154 ?_
              refine jr_goto (tgt := 159) F dX8_layTie_155 (by decide) ?_
              refine jr_iadd F dX8_layTie_159 ?_
              refine jr_istore F dX8_layTie_160 (Nat.le_of_ble_eq_true rfl) rfl ?_
              refine jr_iinc F dX8_layTie_162 rfl (Nat.le_of_ble_eq_true rfl) rfl ?_
              refine jr_goto (tgt := 132) F dX8_layTie_165 (by decide) ?_
              exact jr_sub (ih132 (i + 1) _ (by omega) (by omega) (by omega) s1 (by unfold ska at hz ⊢; first | (rw [cnq_n i0 (by assumption), hz]; omega) | (rw [cnq_y i0 (by assumption), hz]))) ⟨rfl, rfl, rfl, rfl, rfl, rfl, rfl, rfl, rfl, rfl, trivial⟩
    exact jr_sub (L132 _ 0 0 (Nat.lt_succ_self _) (by omega) (by omega) (by omega) rfl) ⟨rfl, rfl, rfl, rfl, rfl, rfl, rfl, rfl, rfl, rfl, trivial⟩
  · refine jr_tsIn (tgt := 225) F (2) dX8_layTie_73 c73 (by omega) (by omega) rfl (by decide) (by omega) ?_
    refine jr_aload_n F dX8_layTie_225 rfl ?_
    refine jr_bipush F dX8_layTie_226 (by decide) ?_
    refine jr_iload_n F dX8_layTie_228 rfl ?_
    refine jr_aload_n F dX8_layTie_229 rfl ?_
    refine jr_getR (t := 9) F dX8_layTie_230 fg_X8_34 (Nat.le_of_ble_eq_true rfl) rfl rfl ?_
    refine jr_iconst F dX8_layTie_233 ?_
    refine jr_iload_n F dX8_layTie_234 rfl ?_
    refine jr_imul F dX8_layTie_235 ?_
    refine jr_iald F dX8_layTie_236 (Nat.le_of_ble_eq_true rfl) rfl (by omega) (fun q236 => ?_) (by omega) (by omega)
    have v236 : m 9 ((3 * t)) = (tyr w t 0) := (rmY0 hM (t := t) (by omega) (by omega))
    rw [v236] at q236
    refine jr_ti v236 ?_
    refine jr_iload F dX8_layTie_237 rfl ?_
    refine jr_isub F dX8_layTie_239 ?_
    refine jr_iconst F dX8_layTie_240 ?_
    refine jr_iadd F dX8_layTie_241 ?_
    refine jr_ldc (z := 1000000) F dX8_layTie_242 (tb_in 1196 (by decide +kernel) (by decide +kernel)) ?_
    refine jr_vVx F dX8_layTie_244 cv_X8_193 (c_X8_bind (by omega) (by omega) (by omega) (by omega)) (Nat.le_of_ble_eq_true rfl) rfl rfl rfl rfl (Nat.le_of_ble_eq_true rfl) (Nat.le_of_ble_eq_true rfl) rfl (Nat.le_of_ble_eq_true rfl) (fun w244 e244 => ?_)
    refine jr_goto (tgt := 264) F dX8_layTie_247 (by decide) ?_
    first | exact jr_vret F dX8_layTie_264 ⟨rfl, by subst e244; exact (TQ_of (f := (tfa w t 3)) (p := (tfa w t 1)) (by omega) (by omega) (by omega) (by omega) (by omega) (by omega) (by omega) (fun v => by unfold TC; constructor; (intro q; omega); (intro q; omega)))⟩ | exact jr_vret F dX8_layTie_264 ⟨rfl, by subst e244; exact (TQ_of (f := 10) (p := (tfa w t 1)) (by omega) (by omega) (by omega) (by omega) (by omega) (by omega) (by omega) (fun v => by unfold TC; rw [wq2]; constructor; (intro q; omega); (intro q; omega)))⟩ | exact jr_vret F dX8_layTie_264 ⟨rfl, by subst e244; exact (TQ_of (f := 10) (p := (tfa w t 1)) (by omega) (by omega) (by omega) (by omega) (by omega) (by omega) (by omega) (fun v => by unfold TC; constructor; (intro q; omega); (intro q; omega)))⟩
  · refine jr_tsOut (tgt := 250) F dX8_layTie_73 c73 (by decide) (by omega) ?_
    refine jr_aload_n F dX8_layTie_250 rfl ?_
    refine jr_iload F dX8_layTie_251 rfl ?_
    refine jr_iload_n F dX8_layTie_253 rfl ?_
    refine jr_ldc (z := -1000000) F dX8_layTie_254 (tb_in 1209 (by decide +kernel) (by decide +kernel)) ?_
    refine jr_iload F dX8_layTie_256 rfl ?_
    refine jr_iload F dX8_layTie_258 rfl ?_
    refine jr_isub F dX8_layTie_260 ?_
    refine jr_vVx F dX8_layTie_261 cv_X8_193 (c_X8_bind (by omega) (by omega) (by omega) (by omega)) (Nat.le_of_ble_eq_true rfl) rfl rfl rfl rfl (Nat.le_of_ble_eq_true rfl) (Nat.le_of_ble_eq_true rfl) rfl (Nat.le_of_ble_eq_true rfl) (fun w261 e261 => ?_)
    first | exact jr_vret F dX8_layTie_264 ⟨rfl, by subst e261; exact (TQ_of (f := (tfa w t 3)) (p := (tfa w t 1)) (by omega) (by omega) (by omega) (by omega) (by omega) (by omega) (by omega) (fun v => by unfold TC; constructor; (intro q; omega); (intro q; omega)))⟩ | exact jr_vret F dX8_layTie_264 ⟨rfl, by subst e261; exact (TQ_of (f := 10) (p := (tfa w t 1)) (by omega) (by omega) (by omega) (by omega) (by omega) (by omega) (by omega) (fun v => by unfold TC; rw [wq2]; constructor; (intro q; omega); (intro q; omega)))⟩ | exact jr_vret F dX8_layTie_264 ⟨rfl, by subst e261; exact (TQ_of (f := 10) (p := (tfa w t 1)) (by omega) (by omega) (by omega) (by omega) (by omega) (by omega) (by omega) (fun v => by unfold TC; constructor; (intro q; omega); (intro q; omega)))⟩

