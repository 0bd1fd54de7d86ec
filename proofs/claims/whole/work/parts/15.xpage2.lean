set_option maxRecDepth 100000 in
set_option maxHeartbeats 4000000 in
theorem c_X2_firstFault {B : Bs} {w : Wd}  (hp : 0 ≤ w 18 1 ∧ w 18 1 ≤ 60) : Sp (GX B) 2 yX2_firstFault cX2_firstFault 3 (Option.some FieldType.int) [.ref (ga (GX B) (18))] w (pE (fun r u => r = (scw w).1 ∧ u = up (up w 18 2 (scw w).2.1) 18 3 (scw w).2.2)) := by
  refine Sp.of (by decide) (Nat.le_of_ble_eq_true rfl) (fun X F => ?_)
  refine jr_ok (fun hO => ?_)
  show Jw (GX B) X _ 0 [some (.ref (ga (GX B) (18)))] [] w
  refine jr_aload_n F dX2_firstFault_0 rfl ?_
  refine jr_iconst F dX2_firstFault_1 ?_
  refine jr_putIx F dX2_firstFault_2 fp_X2_19 (Nat.le_of_ble_eq_true rfl) rfl rfl (by omega) (fun w2 e2 => ?_)
  refine jr_aload_n F dX2_firstFault_5 rfl ?_
  refine jr_iconst F dX2_firstFault_6 ?_
  refine jr_putIx F dX2_firstFault_7 fp_X2_22 (Nat.le_of_ble_eq_true rfl) rfl rfl (by omega) (fun w7 e7 => ?_)
  refine jr_iconst F dX2_firstFault_10 ?_
  refine jr_istore_n F dX2_firstFault_11 (Nat.le_of_ble_eq_true rfl) rfl ?_
  have L12 : ∀ (fuel : Nat) (u : Wd) (k : Int) (s : Int) (d : Int), (w 18 1 - k).toNat < fuel → (0 ≤ k) → (k ≤ w 18 1) → (0 ≤ d ∧ d ≤ k) → (u = up (up w 18 2 s) 18 3 d) → (scw w = scan (pgl w) (w 18 1 - k).toNat k s d) → Jw (GX B) X (pE (fun r u => r = (scw w).1 ∧ u = up (up w 18 2 (scw w).2.1) 18 3 (scw w).2.2)) 12 [some (.ref (ga (GX B) 18)), some (iv k)] [] u := by
    intro fuel
    induction fuel with
    | zero => intro u k s d hfuel; exact absurd hfuel (Nat.not_lt_zero _)
    | succ fuel ih12 =>
        intro u k s d hfuel k0 k1 hd hu hs
        have u1 : u 18 1 = w 18 1 := by subst hu; rfl
        have ug : pgl u = pgl w := by funext i; unfold pgl rd; subst hu; rfl
        refine jr_iload_n F dX2_firstFault_12 rfl ?_
        refine jr_aload_n F dX2_firstFault_13 rfl ?_
        refine jr_getIx F (w 18 1) dX2_firstFault_14 fg_X2_15 (Nat.le_of_ble_eq_true rfl) rfl rfl u1 (fun q14 => ?_)
        refine jr_icmp_ge (tgt := 82) F dX2_firstFault_17 (by decide) (fun c17 => ?_) (fun c17 => ?_) (by omega) (by omega)
        · skip
          refine jr_aload_n F dX2_firstFault_82 rfl ?_
          refine jr_getIx F (w 18 1) dX2_firstFault_83 fg_X2_15 (Nat.le_of_ble_eq_true rfl) rfl rfl u1 (fun q83 => ?_)
          exact jr_iret F dX2_firstFault_86 (pE_of (by rw [hs, show (w 18 1 - k).toNat = 0 by omega, scan]; exact ⟨by omega, hu⟩))
        · skip
          refine jr_aload_n F dX2_firstFault_20 rfl ?_
          refine jr_iload_n F dX2_firstFault_21 rfl ?_
          refine jr_vI F dX2_firstFault_22 cv_X2_39 (c_X2_letterAt (by omega)) (Nat.le_of_ble_eq_true rfl) rfl rfl rfl rfl (Nat.le_of_ble_eq_true rfl) (Nat.le_of_ble_eq_true rfl) rfl (Nat.le_of_ble_eq_true rfl) ?_
          refine jr_ti (b := (pgl w k)) (by rw [ug]) ?_
          have ql := pgl_R hO k
          refine jr_istore_n F dX2_firstFault_25 (Nat.le_of_ble_eq_true rfl) rfl ?_
          refine jr_aload_n F dX2_firstFault_26 rfl ?_
          refine jr_aload_n F dX2_firstFault_27 rfl ?_
          refine jr_iload_n F dX2_firstFault_28 rfl ?_
          refine jr_vI F dX2_firstFault_29 cv_X2_43 (c_X2_after (by omega)) (Nat.le_of_ble_eq_true rfl) rfl rfl rfl rfl (Nat.le_of_ble_eq_true rfl) (Nat.le_of_ble_eq_true rfl) rfl (Nat.le_of_ble_eq_true rfl) ?_
          refine jr_ti (b := (tnx s (pgl w k) d)) (by subst hu; rfl) ?_
          have qt := tnx_R s (pgl w k) d
          refine jr_putIx F dX2_firstFault_32 fp_X2_19 (Nat.le_of_ble_eq_true rfl) rfl rfl (by omega) (fun w32 e32 => ?_)
          refine jr_aload_n F dX2_firstFault_35 rfl ?_
          refine jr_getIx F (tnx s (pgl w k) d) dX2_firstFault_36 fg_X2_19 (Nat.le_of_ble_eq_true rfl) rfl rfl (by subst e32; rfl) (fun q36 => ?_)
          refine jr_bipush F dX2_firstFault_39 (by decide) ?_
          refine jr_icmp_ne (tgt := 46) F dX2_firstFault_41 (by decide) (fun c41 => ?_) (fun c41 => ?_) (by omega) (by omega)
          · skip
            refine jr_aload_n F dX2_firstFault_46 rfl ?_
            refine jr_dup F dX2_firstFault_47 rfl ?_
            refine jr_getIx F d dX2_firstFault_48 fg_X2_22 (Nat.le_of_ble_eq_true rfl) rfl rfl (by subst e32; subst hu; rfl) (fun q48 => ?_)
            refine jr_iload_n F dX2_firstFault_51 rfl ?_
            refine jr_bipush F dX2_firstFault_52 (by decide) ?_
            refine jr_icmp_ne (tgt := 61) F dX2_firstFault_54 (by decide) (fun c54 => ?_) (fun c54 => ?_) (by omega) (by omega)
            · skip
              refine jr_iload_n F dX2_firstFault_61 rfl ?_
              refine jr_bipush F dX2_firstFault_62 (by decide) ?_
              refine jr_icmp_ne (tgt := 71) F dX2_firstFault_64 (by decide) (fun c64 => ?_) (fun c64 => ?_) (by omega) (by omega)
              · skip
                refine jr_iconst F dX2_firstFault_71 ?_
                refine jr_iadd F dX2_firstFault_72 ?_
                refine jr_putIx F dX2_firstFault_73 fp_X2_22 (Nat.le_of_ble_eq_true rfl) rfl rfl (by omega) (fun w73 e73 => ?_)
                refine jr_iinc F dX2_firstFault_76 rfl (Nat.le_of_ble_eq_true rfl) rfl ?_
                refine jr_goto (tgt := 12) F dX2_firstFault_79 (by decide) ?_
                exact jr_sub (ih12 _ (k + 1) (tnx s (pgl w k) d) (d + dep (pgl w k)) (by omega) (by omega) (by omega) (dep_R hd c41) (by subst e73; subst e32; subst hu; (first | rw [dep_1 (by omega)] | rw [dep_2 (by omega)] | rw [dep_0 (by omega) (by omega)]); try (first | rfl | (funext a b; simp only [up]; (repeat' split) <;> first | rfl | omega | simp_all))) (by rw [hs, show (w 18 1 - k).toNat = (w 18 1 - (k + 1)).toNat + 1 by omega, scan_s c41])) ⟨rfl, rfl, trivial⟩
              · skip
                refine jr_iconst F dX2_firstFault_67 ?_
                refine jr_goto (tgt := 72) F dX2_firstFault_68 (by decide) ?_
                refine jr_iadd F dX2_firstFault_72 ?_
                refine jr_putIx F dX2_firstFault_73 fp_X2_22 (Nat.le_of_ble_eq_true rfl) rfl rfl (by omega) (fun w73_1 e73_1 => ?_)
                refine jr_iinc F dX2_firstFault_76 rfl (Nat.le_of_ble_eq_true rfl) rfl ?_
                refine jr_goto (tgt := 12) F dX2_firstFault_79 (by decide) ?_
                exact jr_sub (ih12 _ (k + 1) (tnx s (pgl w k) d) (d + dep (pgl w k)) (by omega) (by omega) (by omega) (dep_R hd c41) (by subst e73_1; subst e32; subst hu; (first | rw [dep_1 (by omega)] | rw [dep_2 (by omega)] | rw [dep_0 (by omega) (by omega)]); try (first | rfl | (funext a b; simp only [up]; (repeat' split) <;> first | rfl | omega | simp_all))) (by rw [hs, show (w 18 1 - k).toNat = (w 18 1 - (k + 1)).toNat + 1 by omega, scan_s c41])) ⟨rfl, rfl, trivial⟩
            · skip
              refine jr_iconst F dX2_firstFault_57 ?_
              refine jr_goto (tgt := 72) F dX2_firstFault_58 (by decide) ?_
              refine jr_iadd F dX2_firstFault_72 ?_
              refine jr_putIx F dX2_firstFault_73 fp_X2_22 (Nat.le_of_ble_eq_true rfl) rfl rfl (by omega) (fun w73_2 e73_2 => ?_)
              refine jr_iinc F dX2_firstFault_76 rfl (Nat.le_of_ble_eq_true rfl) rfl ?_
              refine jr_goto (tgt := 12) F dX2_firstFault_79 (by decide) ?_
              exact jr_sub (ih12 _ (k + 1) (tnx s (pgl w k) d) (d + dep (pgl w k)) (by omega) (by omega) (by omega) (dep_R hd c41) (by subst e73_2; subst e32; subst hu; (first | rw [dep_1 (by omega)] | rw [dep_2 (by omega)] | rw [dep_0 (by omega) (by omega)]); try (first | rfl | (funext a b; simp only [up]; (repeat' split) <;> first | rfl | omega | simp_all))) (by rw [hs, show (w 18 1 - k).toNat = (w 18 1 - (k + 1)).toNat + 1 by omega, scan_s c41])) ⟨rfl, rfl, trivial⟩
          · skip
            refine jr_iload_n F dX2_firstFault_44 rfl ?_
            exact jr_iret F dX2_firstFault_45 (pE_of (by rw [hs, show (w 18 1 - k).toNat = (w 18 1 - (k + 1)).toNat + 1 by omega, scan_f c41]; exact ⟨rfl, by subst e32; subst hu; rw [c41]; first | rfl | (funext a b; simp only [up]; (repeat' split) <;> first | rfl | omega | simp_all)⟩))
  exact jr_sub (L12 _ _ 0 0 0 (Nat.lt_succ_self _) (by omega) (by omega) (by omega) (by subst e7; subst e2; rfl) (by rw [Int.sub_zero]; rfl)) ⟨rfl, rfl, trivial⟩

