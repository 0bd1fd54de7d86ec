noncomputable def rdT (w m : Wd) : Wd := up (up m 0 19 (scw w).1) 0 20 (bi (txw w))

set_option maxRecDepth 100000 in
set_option maxHeartbeats 4000000 in
theorem c_X8_readText {B : Bs} {w m : Wd}  (hM : RM w m) (hp : 0 ≤ w 18 1 ∧ w 18 1 ≤ 60) : Sp (GM B) 2 yX8_readText cX8_readText 6 (Option.none : Option FieldType) [.ref (ga (GM B) (0))] m (pV (rdT w m)) := by
  refine Sp.of (by decide) (Nat.le_of_ble_eq_true rfl) (fun X F => ?_)
  show Jw (GM B) X _ 0 [some (.ref (ga (GM B) (0)))] [] m
  refine jr_iconst F dX8_readText_0 ?_
  refine jr_istore_n F dX8_readText_1 (Nat.le_of_ble_eq_true rfl) rfl ?_
  refine jr_iconst F dX8_readText_2 ?_
  refine jr_istore_n F dX8_readText_3 (Nat.le_of_ble_eq_true rfl) rfl ?_
  refine jr_iconst F dX8_readText_4 ?_
  refine jr_istore_n F dX8_readText_5 (Nat.le_of_ble_eq_true rfl) rfl ?_
  refine jr_iconst F dX8_readText_6 ?_
  refine jr_istore F dX8_readText_7 (Nat.le_of_ble_eq_true rfl) rfl ?_
  have L9 : ∀ (fuel : Nat) (k : Int) (s : Int) (d : Int) (g : Int), (w 18 1 - k + g).toNat < fuel → (0 ≤ k) → (k ≤ w 18 1) → (0 ≤ d ∧ d ≤ k) → (0 ≤ s ∧ s ≤ 8) → ((g = 1 ∧ scw w = scan (pgl w) (w 18 1 - k).toNat k s d) ∨ (g = 0 ∧ k < w 18 1 ∧ (scw w).1 = k)) → Jw (GM B) X (pV (rdT w m)) 9 [some (.ref (ga (GM B) 0)), some (iv s), some (iv d), some (iv k), some (iv g)] [] m := by
    intro fuel
    induction fuel with
    | zero => intro k s d g hfuel; exact absurd hfuel (Nat.not_lt_zero _)
    | succ fuel ih9 =>
        intro k s d g hfuel k0 k1 hd hs hg
        refine jr_iload_n F dX8_readText_9 rfl ?_
        refine jr_aload_n F dX8_readText_10 rfl ?_
        refine jr_getIx F (w 18 1) dX8_readText_11 fg_X8_140 (Nat.le_of_ble_eq_true rfl) rfl rfl ((show m 0 11 = (w 18 1) from rn11 hM)) (fun q11 => ?_)
        refine jr_icmp_ge (tgt := 97) F dX8_readText_14 (by decide) (fun c14 => ?_) (fun c14 => ?_) (by omega) (by omega)
        · skip
          have sF : (scw w).1 = k ∧ (k = w 18 1 → (scw w).2.2 = d ∧ (scw w).2.1 = s) := by
            rcases hg with ⟨_, q⟩ | ⟨_, q, z⟩
            · have e0 : (w 18 1 - k).toNat = 0 := by omega
              rw [q, e0]; exact ⟨rfl, fun _ => ⟨rfl, rfl⟩⟩
            · exact ⟨z, fun y => by omega⟩
          refine jr_aload_n F dX8_readText_97 rfl ?_
          refine jr_iload_n F dX8_readText_98 rfl ?_
          refine jr_putIx F dX8_readText_99 fp_X8_150 (Nat.le_of_ble_eq_true rfl) rfl rfl (by omega) (fun w99 e99 => ?_)
          refine jr_aload_n F dX8_readText_102 rfl ?_
          refine jr_iload_n F dX8_readText_103 rfl ?_
          refine jr_aload_n F dX8_readText_104 rfl ?_
          refine jr_getIx F (w 18 1) dX8_readText_105 fg_X8_140 (Nat.le_of_ble_eq_true rfl) rfl rfl (by subst e99; exact rn11 hM) (fun q105 => ?_)
          refine jr_icmp_ne (tgt := 130) F dX8_readText_108 (by decide) (fun c108 => ?_) (fun c108 => ?_) (by omega) (by omega)
          · skip
            refine jr_iconst F dX8_readText_130 ?_
            refine jr_putZx F dX8_readText_131 fp_X8_153 (Nat.le_of_ble_eq_true rfl) rfl rfl (by omega) (fun w131 e131 => ?_)
            exact jr_vret F dX8_readText_134 ⟨rfl, by subst e131; subst e99; unfold rdT; rw [sF.1]; first | (rw [bi_t (show txw w from by have := sF.2 (by omega); unfold txw; omega)]; rfl) | (rw [bi_f (show ¬ txw w from by have := sF.2 (by omega); unfold txw; omega)]; rfl) | (rw [bi_f (show ¬ txw w from by unfold txw; omega)]; rfl)⟩
          · skip
            refine jr_iload_n F dX8_readText_111 rfl ?_
            refine jr_if_ne (tgt := 130) F dX8_readText_112 (by decide) (fun c112 => ?_) (fun c112 => ?_) (by omega)
            · skip
              refine jr_iconst F dX8_readText_130 ?_
              refine jr_putZx F dX8_readText_131 fp_X8_153 (Nat.le_of_ble_eq_true rfl) rfl rfl (by omega) (fun w131_1 e131_1 => ?_)
              exact jr_vret F dX8_readText_134 ⟨rfl, by subst e131_1; subst e99; unfold rdT; rw [sF.1]; first | (rw [bi_t (show txw w from by have := sF.2 (by omega); unfold txw; omega)]; rfl) | (rw [bi_f (show ¬ txw w from by have := sF.2 (by omega); unfold txw; omega)]; rfl) | (rw [bi_f (show ¬ txw w from by unfold txw; omega)]; rfl)⟩
            · skip
              refine jr_iload_n F dX8_readText_115 rfl ?_
              refine jr_iconst F dX8_readText_116 ?_
              refine jr_icmp_eq (tgt := 126) F dX8_readText_117 (by decide) (fun c117 => ?_) (fun c117 => ?_) (by omega) (by omega)
              · skip
                refine jr_iconst F dX8_readText_126 ?_
                refine jr_goto (tgt := 131) F dX8_readText_127 (by decide) ?_
                refine jr_putZx F dX8_readText_131 fp_X8_153 (Nat.le_of_ble_eq_true rfl) rfl rfl (by omega) (fun w131_2 e131_2 => ?_)
                exact jr_vret F dX8_readText_134 ⟨rfl, by subst e131_2; subst e99; unfold rdT; rw [sF.1]; first | (rw [bi_t (show txw w from by have := sF.2 (by omega); unfold txw; omega)]; rfl) | (rw [bi_f (show ¬ txw w from by have := sF.2 (by omega); unfold txw; omega)]; rfl) | (rw [bi_f (show ¬ txw w from by unfold txw; omega)]; rfl)⟩
              · skip
                refine jr_iload_n F dX8_readText_120 rfl ?_
                refine jr_bipush F dX8_readText_121 (by decide) ?_
                refine jr_icmp_le (tgt := 130) F dX8_readText_123 (by decide) (fun c123 => ?_) (fun c123 => ?_) (by omega) (by omega)
                · skip
                  refine jr_iconst F dX8_readText_130 ?_
                  refine jr_putZx F dX8_readText_131 fp_X8_153 (Nat.le_of_ble_eq_true rfl) rfl rfl (by omega) (fun w131_3 e131_3 => ?_)
                  exact jr_vret F dX8_readText_134 ⟨rfl, by subst e131_3; subst e99; unfold rdT; rw [sF.1]; first | (rw [bi_t (show txw w from by have := sF.2 (by omega); unfold txw; omega)]; rfl) | (rw [bi_f (show ¬ txw w from by have := sF.2 (by omega); unfold txw; omega)]; rfl) | (rw [bi_f (show ¬ txw w from by unfold txw; omega)]; rfl)⟩
                · skip
                  refine jr_iconst F dX8_readText_126 ?_
                  refine jr_goto (tgt := 131) F dX8_readText_127 (by decide) ?_
                  refine jr_putZx F dX8_readText_131 fp_X8_153 (Nat.le_of_ble_eq_true rfl) rfl rfl (by omega) (fun w131_4 e131_4 => ?_)
                  exact jr_vret F dX8_readText_134 ⟨rfl, by subst e131_4; subst e99; unfold rdT; rw [sF.1]; first | (rw [bi_t (show txw w from by have := sF.2 (by omega); unfold txw; omega)]; rfl) | (rw [bi_f (show ¬ txw w from by have := sF.2 (by omega); unfold txw; omega)]; rfl) | (rw [bi_f (show ¬ txw w from by unfold txw; omega)]; rfl)⟩
        · skip
          refine jr_iload F dX8_readText_17 rfl ?_
          refine jr_if_eq (tgt := 97) F dX8_readText_19 (by decide) (fun c19 => ?_) (fun c19 => ?_) (by omega)
          · skip
            have sF : (scw w).1 = k ∧ (k = w 18 1 → (scw w).2.2 = d ∧ (scw w).2.1 = s) := by
              rcases hg with ⟨_, q⟩ | ⟨_, q, z⟩
              · have e0 : (w 18 1 - k).toNat = 0 := by omega
                rw [q, e0]; exact ⟨rfl, fun _ => ⟨rfl, rfl⟩⟩
              · exact ⟨z, fun y => by omega⟩
            refine jr_aload_n F dX8_readText_97 rfl ?_
            refine jr_iload_n F dX8_readText_98 rfl ?_
            refine jr_putIx F dX8_readText_99 fp_X8_150 (Nat.le_of_ble_eq_true rfl) rfl rfl (by omega) (fun w99_1 e99_1 => ?_)
            refine jr_aload_n F dX8_readText_102 rfl ?_
            refine jr_iload_n F dX8_readText_103 rfl ?_
            refine jr_aload_n F dX8_readText_104 rfl ?_
            refine jr_getIx F (w 18 1) dX8_readText_105 fg_X8_140 (Nat.le_of_ble_eq_true rfl) rfl rfl (by subst e99_1; exact rn11 hM) (fun q105 => ?_)
            refine jr_icmp_ne (tgt := 130) F dX8_readText_108 (by decide) (fun c108 => ?_) (fun c108 => ?_) (by omega) (by omega)
            · skip
              refine jr_iconst F dX8_readText_130 ?_
              refine jr_putZx F dX8_readText_131 fp_X8_153 (Nat.le_of_ble_eq_true rfl) rfl rfl (by omega) (fun w131_5 e131_5 => ?_)
              exact jr_vret F dX8_readText_134 ⟨rfl, by subst e131_5; subst e99_1; unfold rdT; rw [sF.1]; first | (rw [bi_t (show txw w from by have := sF.2 (by omega); unfold txw; omega)]; rfl) | (rw [bi_f (show ¬ txw w from by have := sF.2 (by omega); unfold txw; omega)]; rfl) | (rw [bi_f (show ¬ txw w from by unfold txw; omega)]; rfl)⟩
            · skip
              refine jr_iload_n F dX8_readText_111 rfl ?_
              refine jr_if_ne (tgt := 130) F dX8_readText_112 (by decide) (fun c112 => ?_) (fun c112 => ?_) (by omega)
              · skip
                refine jr_iconst F dX8_readText_130 ?_
                refine jr_putZx F dX8_readText_131 fp_X8_153 (Nat.le_of_ble_eq_true rfl) rfl rfl (by omega) (fun w131_6 e131_6 => ?_)
                exact jr_vret F dX8_readText_134 ⟨rfl, by subst e131_6; subst e99_1; unfold rdT; rw [sF.1]; first | (rw [bi_t (show txw w from by have := sF.2 (by omega); unfold txw; omega)]; rfl) | (rw [bi_f (show ¬ txw w from by have := sF.2 (by omega); unfold txw; omega)]; rfl) | (rw [bi_f (show ¬ txw w from by unfold txw; omega)]; rfl)⟩
              · skip
                refine jr_iload_n F dX8_readText_115 rfl ?_
                refine jr_iconst F dX8_readText_116 ?_
                refine jr_icmp_eq (tgt := 126) F dX8_readText_117 (by decide) (fun c117 => ?_) (fun c117 => ?_) (by omega) (by omega)
                · skip
                  refine jr_iconst F dX8_readText_126 ?_
                  refine jr_goto (tgt := 131) F dX8_readText_127 (by decide) ?_
                  refine jr_putZx F dX8_readText_131 fp_X8_153 (Nat.le_of_ble_eq_true rfl) rfl rfl (by omega) (fun w131_7 e131_7 => ?_)
                  exact jr_vret F dX8_readText_134 ⟨rfl, by subst e131_7; subst e99_1; unfold rdT; rw [sF.1]; first | (rw [bi_t (show txw w from by have := sF.2 (by omega); unfold txw; omega)]; rfl) | (rw [bi_f (show ¬ txw w from by have := sF.2 (by omega); unfold txw; omega)]; rfl) | (rw [bi_f (show ¬ txw w from by unfold txw; omega)]; rfl)⟩
                · skip
                  refine jr_iload_n F dX8_readText_120 rfl ?_
                  refine jr_bipush F dX8_readText_121 (by decide) ?_
                  refine jr_icmp_le (tgt := 130) F dX8_readText_123 (by decide) (fun c123 => ?_) (fun c123 => ?_) (by omega) (by omega)
                  · skip
                    refine jr_iconst F dX8_readText_130 ?_
                    refine jr_putZx F dX8_readText_131 fp_X8_153 (Nat.le_of_ble_eq_true rfl) rfl rfl (by omega) (fun w131_8 e131_8 => ?_)
                    exact jr_vret F dX8_readText_134 ⟨rfl, by subst e131_8; subst e99_1; unfold rdT; rw [sF.1]; first | (rw [bi_t (show txw w from by have := sF.2 (by omega); unfold txw; omega)]; rfl) | (rw [bi_f (show ¬ txw w from by have := sF.2 (by omega); unfold txw; omega)]; rfl) | (rw [bi_f (show ¬ txw w from by unfold txw; omega)]; rfl)⟩
                  · skip
                    refine jr_iconst F dX8_readText_126 ?_
                    refine jr_goto (tgt := 131) F dX8_readText_127 (by decide) ?_
                    refine jr_putZx F dX8_readText_131 fp_X8_153 (Nat.le_of_ble_eq_true rfl) rfl rfl (by omega) (fun w131_9 e131_9 => ?_)
                    exact jr_vret F dX8_readText_134 ⟨rfl, by subst e131_9; subst e99_1; unfold rdT; rw [sF.1]; first | (rw [bi_t (show txw w from by have := sF.2 (by omega); unfold txw; omega)]; rfl) | (rw [bi_f (show ¬ txw w from by have := sF.2 (by omega); unfold txw; omega)]; rfl) | (rw [bi_f (show ¬ txw w from by unfold txw; omega)]; rfl)⟩
          · skip
            have hG := (hg.resolve_right (fun q => by omega)).2
            refine jr_aload_n F dX8_readText_22 rfl ?_
            refine jr_iload_n F dX8_readText_23 rfl ?_
            refine jr_aload_n F dX8_readText_24 rfl ?_
            refine jr_getR (t := 10) F dX8_readText_25 fg_X8_37 (Nat.le_of_ble_eq_true rfl) rfl rfl ?_
            refine jr_iload_n F dX8_readText_28 rfl ?_
            refine jr_bald F dX8_readText_29 (Nat.le_of_ble_eq_true rfl) rfl (by omega) (fun q29 => ?_) (by omega) (by omega)
            have v29 : m 10 (k) = (pgl w k) := (rmP hM (i := k) (by omega) (by omega))
            rw [v29] at q29
            refine jr_ti v29 ?_
            refine jr_iload_n F dX8_readText_30 rfl ?_
            have dR := hd
            have tR := tnx_R s (pgl w k) d
            refine jr_vI F dX8_readText_31 cv_X8_146 (c_X8_next (by omega) (by omega) (by omega)) (Nat.le_of_ble_eq_true rfl) rfl rfl rfl rfl (Nat.le_of_ble_eq_true rfl) (Nat.le_of_ble_eq_true rfl) rfl (Nat.le_of_ble_eq_true rfl) ?_
            refine jr_istore F dX8_readText_34 (Nat.le_of_ble_eq_true rfl) rfl ?_
            have nR : -1 ≤ nxm s (pgl w k) d ∧ nxm s (pgl w k) d ≤ 8 := by unfold nxm; split <;> omega
            refine jr_iload F dX8_readText_36 rfl ?_
            refine jr_iconst F dX8_readText_38 ?_
            refine jr_icmp_eq (tgt := 46) F dX8_readText_39 (by decide) (fun c39 => ?_) (fun c39 => ?_) (by omega) (by omega)
            · skip
              have t9 : tnx s (pgl w k) d = 9 := Classical.byContradiction (fun q => by have tE : nxm s (pgl w k) d = tnx s (pgl w k) d := by { unfold nxm; rw [if_neg q] }; omega)
              refine jr_iconst F dX8_readText_46 ?_
              refine jr_istore F dX8_readText_47 (Nat.le_of_ble_eq_true rfl) rfl ?_
              refine jr_iload F dX8_readText_49 rfl ?_
              refine jr_if_eq (tgt := 94) F dX8_readText_51 (by decide) (fun c51 => ?_) (fun c51 => ?_) (by omega)
              · skip
                refine jr_goto (tgt := 9) F dX8_readText_94 (by decide) ?_
                first | exact jr_sub (ih9 (k + 1) (tnx s (pgl w k) d) (d + dep (pgl w k)) 1 (by omega) (by omega) (by omega) (dep_R hd t9) (by omega) (Or.inl ⟨rfl, by rw [hG, show (w 18 1 - k).toNat = (w 18 1 - (k + 1)).toNat + 1 by omega, scan_s t9]⟩)) ⟨rfl, by rw [tE]; rfl, by first | (rw [dep_1 (by omega)]; rfl) | (rw [dep_2 (by omega)]; rfl) | (rw [dep_0 (by omega) (by omega)]; rfl), rfl, rfl, trivial⟩ | exact jr_sub (ih9 k s d 0 (by omega) (by omega) (by omega) hd hs (Or.inr ⟨rfl, by omega, by rw [hG, show (w 18 1 - k).toNat = (w 18 1 - (k + 1)).toNat + 1 by omega, scan_f t9]⟩)) ⟨rfl, rfl, rfl, rfl, rfl, trivial⟩
              · exact absurd c51 (by omega)
            · skip
              have t9 : ¬ tnx s (pgl w k) d = 9 := fun q => c39 (nxm_n q).symm
              have tE : nxm s (pgl w k) d = tnx s (pgl w k) d := by unfold nxm; rw [if_neg t9]
              refine jr_iconst F dX8_readText_42 ?_
              refine jr_goto (tgt := 47) F dX8_readText_43 (by decide) ?_
              refine jr_istore F dX8_readText_47 (Nat.le_of_ble_eq_true rfl) rfl ?_
              refine jr_iload F dX8_readText_49 rfl ?_
              refine jr_if_eq (tgt := 94) F dX8_readText_51 (by decide) (fun c51 => ?_) (fun c51 => ?_) (by omega)
              · exact absurd c51 (by omega)
              · skip
                refine jr_iload_n F dX8_readText_54 rfl ?_
                refine jr_aload_n F dX8_readText_55 rfl ?_
                refine jr_getR (t := 10) F dX8_readText_56 fg_X8_37 (Nat.le_of_ble_eq_true rfl) rfl rfl ?_
                refine jr_iload_n F dX8_readText_59 rfl ?_
                refine jr_bald F dX8_readText_60 (Nat.le_of_ble_eq_true rfl) rfl (by omega) (fun q60 => ?_) (by omega) (by omega)
                have v60 : m 10 (k) = (pgl w k) := (rmP hM (i := k) (by omega) (by omega))
                rw [v60] at q60
                refine jr_ti v60 ?_
                refine jr_bipush F dX8_readText_61 (by decide) ?_
                refine jr_icmp_ne (tgt := 70) F dX8_readText_63 (by decide) (fun c63 => ?_) (fun c63 => ?_) (by omega) (by omega)
                · skip
                  refine jr_aload_n F dX8_readText_70 rfl ?_
                  refine jr_getR (t := 10) F dX8_readText_71 fg_X8_37 (Nat.le_of_ble_eq_true rfl) rfl rfl ?_
                  refine jr_iload_n F dX8_readText_74 rfl ?_
                  refine jr_bald F dX8_readText_75 (Nat.le_of_ble_eq_true rfl) rfl (by omega) (fun q75 => ?_) (by omega) (by omega)
                  have v75 : m 10 (k) = (pgl w k) := (rmP hM (i := k) (by omega) (by omega))
                  rw [v75] at q75
                  refine jr_ti v75 ?_
                  refine jr_bipush F dX8_readText_76 (by decide) ?_
                  refine jr_icmp_ne (tgt := 85) F dX8_readText_78 (by decide) (fun c78 => ?_) (fun c78 => ?_) (by omega) (by omega)
                  · skip
                    refine jr_iconst F dX8_readText_85 ?_
                    refine jr_iadd F dX8_readText_86 ?_
                    refine jr_istore_n F dX8_readText_87 (Nat.le_of_ble_eq_true rfl) rfl ?_
                    refine jr_iload F dX8_readText_88 rfl ?_
                    refine jr_istore_n F dX8_readText_90 (Nat.le_of_ble_eq_true rfl) rfl ?_
                    refine jr_iinc F dX8_readText_91 rfl (Nat.le_of_ble_eq_true rfl) rfl ?_
                    refine jr_goto (tgt := 9) F dX8_readText_94 (by decide) ?_
                    first | exact jr_sub (ih9 (k + 1) (tnx s (pgl w k) d) (d + dep (pgl w k)) 1 (by omega) (by omega) (by omega) (dep_R hd t9) (by omega) (Or.inl ⟨rfl, by rw [hG, show (w 18 1 - k).toNat = (w 18 1 - (k + 1)).toNat + 1 by omega, scan_s t9]⟩)) ⟨rfl, by rw [tE]; rfl, by first | (rw [dep_1 (by omega)]; rfl) | (rw [dep_2 (by omega)]; rfl) | (rw [dep_0 (by omega) (by omega)]; rfl), rfl, rfl, trivial⟩ | exact jr_sub (ih9 k s d 0 (by omega) (by omega) (by omega) hd hs (Or.inr ⟨rfl, by omega, by rw [hG, show (w 18 1 - k).toNat = (w 18 1 - (k + 1)).toNat + 1 by omega, scan_f t9]⟩)) ⟨rfl, rfl, rfl, rfl, rfl, trivial⟩
                  · skip
                    refine jr_iconst F dX8_readText_81 ?_
                    refine jr_goto (tgt := 86) F dX8_readText_82 (by decide) ?_
                    refine jr_iadd F dX8_readText_86 ?_
                    refine jr_istore_n F dX8_readText_87 (Nat.le_of_ble_eq_true rfl) rfl ?_
                    refine jr_iload F dX8_readText_88 rfl ?_
                    refine jr_istore_n F dX8_readText_90 (Nat.le_of_ble_eq_true rfl) rfl ?_
                    refine jr_iinc F dX8_readText_91 rfl (Nat.le_of_ble_eq_true rfl) rfl ?_
                    refine jr_goto (tgt := 9) F dX8_readText_94 (by decide) ?_
                    first | exact jr_sub (ih9 (k + 1) (tnx s (pgl w k) d) (d + dep (pgl w k)) 1 (by omega) (by omega) (by omega) (dep_R hd t9) (by omega) (Or.inl ⟨rfl, by rw [hG, show (w 18 1 - k).toNat = (w 18 1 - (k + 1)).toNat + 1 by omega, scan_s t9]⟩)) ⟨rfl, by rw [tE]; rfl, by first | (rw [dep_1 (by omega)]; rfl) | (rw [dep_2 (by omega)]; rfl) | (rw [dep_0 (by omega) (by omega)]; rfl), rfl, rfl, trivial⟩ | exact jr_sub (ih9 k s d 0 (by omega) (by omega) (by omega) hd hs (Or.inr ⟨rfl, by omega, by rw [hG, show (w 18 1 - k).toNat = (w 18 1 - (k + 1)).toNat + 1 by omega, scan_f t9]⟩)) ⟨rfl, rfl, rfl, rfl, rfl, trivial⟩
                · skip
                  refine jr_iconst F dX8_readText_66 ?_
                  refine jr_goto (tgt := 86) F dX8_readText_67 (by decide) ?_
                  refine jr_iadd F dX8_readText_86 ?_
                  refine jr_istore_n F dX8_readText_87 (Nat.le_of_ble_eq_true rfl) rfl ?_
                  refine jr_iload F dX8_readText_88 rfl ?_
                  refine jr_istore_n F dX8_readText_90 (Nat.le_of_ble_eq_true rfl) rfl ?_
                  refine jr_iinc F dX8_readText_91 rfl (Nat.le_of_ble_eq_true rfl) rfl ?_
                  refine jr_goto (tgt := 9) F dX8_readText_94 (by decide) ?_
                  first | exact jr_sub (ih9 (k + 1) (tnx s (pgl w k) d) (d + dep (pgl w k)) 1 (by omega) (by omega) (by omega) (dep_R hd t9) (by omega) (Or.inl ⟨rfl, by rw [hG, show (w 18 1 - k).toNat = (w 18 1 - (k + 1)).toNat + 1 by omega, scan_s t9]⟩)) ⟨rfl, by rw [tE]; rfl, by first | (rw [dep_1 (by omega)]; rfl) | (rw [dep_2 (by omega)]; rfl) | (rw [dep_0 (by omega) (by omega)]; rfl), rfl, rfl, trivial⟩ | exact jr_sub (ih9 k s d 0 (by omega) (by omega) (by omega) hd hs (Or.inr ⟨rfl, by omega, by rw [hG, show (w 18 1 - k).toNat = (w 18 1 - (k + 1)).toNat + 1 by omega, scan_f t9]⟩)) ⟨rfl, rfl, rfl, rfl, rfl, trivial⟩
  exact jr_sub (L9 _ 0 0 0 1 (Nat.lt_succ_self _) (by omega) (by omega) (by omega) (by omega) (Or.inl ⟨rfl, by rw [Int.sub_zero]; rfl⟩)) ⟨rfl, rfl, rfl, rfl, rfl, trivial⟩

