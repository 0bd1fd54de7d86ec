set_option maxRecDepth 100000 in
set_option maxHeartbeats 4000000 in
theorem c_X8_bind {B : Bs} {m : Wd} {f t l g : Int} (hf : 0 ≤ f ∧ f < 11) (ht : 0 ≤ t ∧ t < 11) (hl : -2000000 ≤ l ∧ l ≤ 2000000) (hg : inR g) : Sp (GM B) 0 yX8_bind cX8_bind 5 (Option.none : Option FieldType) [.ref (ga (GM B) (0)), iv (f), iv (t), iv (l), iv (g)] m (pV (bdw m f t l g)) := by
  refine Sp.of (by decide) (Nat.le_of_ble_eq_true rfl) (fun X F => ?_)
  show Jw (GM B) X _ 0 [some (.ref (ga (GM B) (0))), some (iv (f)), some (iv (t)), some (iv (l)), some (iv (g))] [] m
  refine jr_aload_n F dX8_bind_0 rfl ?_
  refine jr_getR (t := 19) F dX8_bind_1 fg_X8_66 (Nat.le_of_ble_eq_true rfl) rfl rfl ?_
  refine jr_bipush F dX8_bind_4 (by decide) ?_
  refine jr_iload_n F dX8_bind_6 rfl ?_
  refine jr_imul F dX8_bind_7 ?_
  refine jr_iload_n F dX8_bind_8 rfl ?_
  refine jr_iadd F dX8_bind_9 ?_
  refine jr_iload F dX8_bind_10 rfl ?_
  refine jr_aload_n F dX8_bind_12 rfl ?_
  refine jr_getR (t := 19) F dX8_bind_13 fg_X8_66 (Nat.le_of_ble_eq_true rfl) rfl rfl ?_
  refine jr_bipush F dX8_bind_16 (by decide) ?_
  refine jr_iload_n F dX8_bind_18 rfl ?_
  refine jr_imul F dX8_bind_19 ?_
  refine jr_iload_n F dX8_bind_20 rfl ?_
  refine jr_iadd F dX8_bind_21 ?_
  refine jr_iald F dX8_bind_22 (Nat.le_of_ble_eq_true rfl) rfl (by omega) (fun q22 => ?_) (by omega) (by omega)
  refine jr_icmp_ge (tgt := 31) F dX8_bind_23 (by decide) (fun c23 => ?_) (fun c23 => ?_) (by omega) (by omega)
  · skip
    refine jr_aload_n F dX8_bind_31 rfl ?_
    refine jr_getR (t := 19) F dX8_bind_32 fg_X8_66 (Nat.le_of_ble_eq_true rfl) rfl rfl ?_
    refine jr_bipush F dX8_bind_35 (by decide) ?_
    refine jr_iload_n F dX8_bind_37 rfl ?_
    refine jr_imul F dX8_bind_38 ?_
    refine jr_iload_n F dX8_bind_39 rfl ?_
    refine jr_iadd F dX8_bind_40 ?_
    refine jr_iald F dX8_bind_41 (Nat.le_of_ble_eq_true rfl) rfl (by omega) (fun q41 => ?_) (by omega) (by omega)
    refine jr_iastx F dX8_bind_42 (Nat.le_of_ble_eq_true rfl) rfl (by omega) (fun w42 e42 => ?_) (by omega) (by omega) (by omega)
    refine jr_aload_n F dX8_bind_43 rfl ?_
    refine jr_getR (t := 19) F dX8_bind_44 fg_X8_66 (Nat.le_of_ble_eq_true rfl) rfl rfl ?_
    refine jr_bipush F dX8_bind_47 (by decide) ?_
    refine jr_iload_n F dX8_bind_49 rfl ?_
    refine jr_imul F dX8_bind_50 ?_
    refine jr_iload_n F dX8_bind_51 rfl ?_
    refine jr_iadd F dX8_bind_52 ?_
    refine jr_iload_n F dX8_bind_53 rfl ?_
    refine jr_ineg F dX8_bind_54 ?_
    refine jr_aload_n F dX8_bind_55 rfl ?_
    refine jr_getR (t := 19) F dX8_bind_56 fg_X8_66 (Nat.le_of_ble_eq_true rfl) rfl rfl ?_
    refine jr_bipush F dX8_bind_59 (by decide) ?_
    refine jr_iload_n F dX8_bind_61 rfl ?_
    refine jr_imul F dX8_bind_62 ?_
    refine jr_iload_n F dX8_bind_63 rfl ?_
    refine jr_iadd F dX8_bind_64 ?_
    refine jr_iald F dX8_bind_65 (Nat.le_of_ble_eq_true rfl) rfl (by omega) (fun q65 => ?_) (by omega) (by omega)
    refine jr_icmp_ge (tgt := 74) F dX8_bind_66 (by decide) (fun c66 => ?_) (fun c66 => ?_) (by omega) (by omega)
    · skip
      refine jr_aload_n F dX8_bind_74 rfl ?_
      refine jr_getR (t := 19) F dX8_bind_75 fg_X8_66 (Nat.le_of_ble_eq_true rfl) rfl rfl ?_
      refine jr_bipush F dX8_bind_78 (by decide) ?_
      refine jr_iload_n F dX8_bind_80 rfl ?_
      refine jr_imul F dX8_bind_81 ?_
      refine jr_iload_n F dX8_bind_82 rfl ?_
      refine jr_iadd F dX8_bind_83 ?_
      refine jr_iald F dX8_bind_84 (Nat.le_of_ble_eq_true rfl) rfl (by omega) (fun q84 => ?_) (by omega) (by omega)
      refine jr_iastx F dX8_bind_85 (Nat.le_of_ble_eq_true rfl) rfl (by omega) (fun w85 e85 => ?_) (by omega) (by omega) (by omega)
      exact jr_vret F dX8_bind_86 ⟨rfl, by subst e85; subst e42; exact bdw_of (by omega) (by omega)⟩
    · skip
      refine jr_iload_n F dX8_bind_69 rfl ?_
      refine jr_ineg F dX8_bind_70 ?_
      refine jr_goto (tgt := 85) F dX8_bind_71 (by decide) ?_
      refine jr_iastx F dX8_bind_85 (Nat.le_of_ble_eq_true rfl) rfl (by omega) (fun w85_1 e85_1 => ?_) (by omega) (by omega) (by omega)
      exact jr_vret F dX8_bind_86 ⟨rfl, by subst e85_1; subst e42; exact bdw_of (by omega) (by omega)⟩
  · skip
    refine jr_iload F dX8_bind_26 rfl ?_
    refine jr_goto (tgt := 42) F dX8_bind_28 (by decide) ?_
    refine jr_iastx F dX8_bind_42 (Nat.le_of_ble_eq_true rfl) rfl (by omega) (fun w42_1 e42_1 => ?_) (by omega) (by omega) (by omega)
    refine jr_aload_n F dX8_bind_43 rfl ?_
    refine jr_getR (t := 19) F dX8_bind_44 fg_X8_66 (Nat.le_of_ble_eq_true rfl) rfl rfl ?_
    refine jr_bipush F dX8_bind_47 (by decide) ?_
    refine jr_iload_n F dX8_bind_49 rfl ?_
    refine jr_imul F dX8_bind_50 ?_
    refine jr_iload_n F dX8_bind_51 rfl ?_
    refine jr_iadd F dX8_bind_52 ?_
    refine jr_iload_n F dX8_bind_53 rfl ?_
    refine jr_ineg F dX8_bind_54 ?_
    refine jr_aload_n F dX8_bind_55 rfl ?_
    refine jr_getR (t := 19) F dX8_bind_56 fg_X8_66 (Nat.le_of_ble_eq_true rfl) rfl rfl ?_
    refine jr_bipush F dX8_bind_59 (by decide) ?_
    refine jr_iload_n F dX8_bind_61 rfl ?_
    refine jr_imul F dX8_bind_62 ?_
    refine jr_iload_n F dX8_bind_63 rfl ?_
    refine jr_iadd F dX8_bind_64 ?_
    refine jr_iald F dX8_bind_65 (Nat.le_of_ble_eq_true rfl) rfl (by omega) (fun q65 => ?_) (by omega) (by omega)
    refine jr_icmp_ge (tgt := 74) F dX8_bind_66 (by decide) (fun c66 => ?_) (fun c66 => ?_) (by omega) (by omega)
    · skip
      refine jr_aload_n F dX8_bind_74 rfl ?_
      refine jr_getR (t := 19) F dX8_bind_75 fg_X8_66 (Nat.le_of_ble_eq_true rfl) rfl rfl ?_
      refine jr_bipush F dX8_bind_78 (by decide) ?_
      refine jr_iload_n F dX8_bind_80 rfl ?_
      refine jr_imul F dX8_bind_81 ?_
      refine jr_iload_n F dX8_bind_82 rfl ?_
      refine jr_iadd F dX8_bind_83 ?_
      refine jr_iald F dX8_bind_84 (Nat.le_of_ble_eq_true rfl) rfl (by omega) (fun q84 => ?_) (by omega) (by omega)
      refine jr_iastx F dX8_bind_85 (Nat.le_of_ble_eq_true rfl) rfl (by omega) (fun w85_2 e85_2 => ?_) (by omega) (by omega) (by omega)
      exact jr_vret F dX8_bind_86 ⟨rfl, by subst e85_2; subst e42_1; exact bdw_of (by omega) (by omega)⟩
    · skip
      refine jr_iload_n F dX8_bind_69 rfl ?_
      refine jr_ineg F dX8_bind_70 ?_
      refine jr_goto (tgt := 85) F dX8_bind_71 (by decide) ?_
      refine jr_iastx F dX8_bind_85 (Nat.le_of_ble_eq_true rfl) rfl (by omega) (fun w85_3 e85_3 => ?_) (by omega) (by omega) (by omega)
      exact jr_vret F dX8_bind_86 ⟨rfl, by subst e85_3; subst e42_1; exact bdw_of (by omega) (by omega)⟩

set_option maxRecDepth 100000 in
set_option maxHeartbeats 4000000 in
theorem c_X8_closeWays {B : Bs} {m : Wd}  (hB : MB (mm m)) : Sp (GM B) 0 yX8_closeWays cX8_closeWays 5 (Option.some FieldType.boolean) [.ref (ga (GM B) (0))] m (pB (∃ v, Sat 11 (mm m) v) (fun u => c19 m u ∧ ((∃ v, Sat 11 (mm m) v) → CLD (mm u) ∧ (∀ v, Sat 11 (mm u) v ↔ Sat 11 (mm m) v) ∧ ∀ a b : Int, 0 ≤ a → a < 11 → 0 ≤ b → b < 11 → -100000000 ≤ mm u a b ∧ mm u a b ≤ 100000000))) := by
  refine Sp.of (by decide) (Nat.le_of_ble_eq_true rfl) (fun X F => ?_)
  show Jw (GM B) X _ 0 [some (.ref (ga (GM B) (0)))] [] m
  refine jr_iconst F dX8_closeWays_0 ?_
  refine jr_istore_n F dX8_closeWays_1 (Nat.le_of_ble_eq_true rfl) rfl ?_
  have L2 : ∀ (fuel : Nat) (x : Wd) (k : Int), (11 - k).toNat < fuel → (0 ≤ k ∧ k ≤ 11) → (c19 m x) → (FK m x k) → Jw (GM B) X (pB (∃ v, Sat 11 (mm m) v) (fun u => c19 m u ∧ ((∃ v, Sat 11 (mm m) v) → CLD (mm u) ∧ (∀ v, Sat 11 (mm u) v ↔ Sat 11 (mm m) v) ∧ ∀ a b : Int, 0 ≤ a → a < 11 → 0 ≤ b → b < 11 → -100000000 ≤ mm u a b ∧ mm u a b ≤ 100000000))) 2 [some (.ref (ga (GM B) 0)), some (iv k)] [] x := by
    intro fuel
    induction fuel with
    | zero => intro x k hfuel; exact absurd hfuel (Nat.not_lt_zero _)
    | succ fuel ih2 =>
        intro x k hfuel k0 hx hk
        refine jr_iload_n F dX8_closeWays_2 rfl ?_
        refine jr_bipush F dX8_closeWays_3 (by decide) ?_
        refine jr_icmp_ge (tgt := 110) F dX8_closeWays_5 (by decide) (fun c5 => ?_) (fun c5 => ?_) (by omega) (by omega)
        · skip
          obtain rfl : k = 11 := by omega
          refine jr_iconst F dX8_closeWays_110 ?_
          refine jr_istore_n F dX8_closeWays_111 (Nat.le_of_ble_eq_true rfl) rfl ?_
          have L112 : ∀ (fuel : Nat) (i : Int), (11 - i).toNat < fuel → (0 ≤ i ∧ i ≤ 11) → (∀ a : Int, 0 ≤ a → a < i → 0 ≤ mm x a a) → Jw (GM B) X (pB (∃ v, Sat 11 (mm m) v) (fun u => c19 m u ∧ ((∃ v, Sat 11 (mm m) v) → CLD (mm u) ∧ (∀ v, Sat 11 (mm u) v ↔ Sat 11 (mm m) v) ∧ ∀ a b : Int, 0 ≤ a → a < 11 → 0 ≤ b → b < 11 → -100000000 ≤ mm u a b ∧ mm u a b ≤ 100000000))) 112 [some (.ref (ga (GM B) 0)), some (iv i)] [] x := by
            intro fuel
            induction fuel with
            | zero => intro i hfuel; exact absurd hfuel (Nat.not_lt_zero _)
            | succ fuel ih112 =>
                intro i hfuel i0 hp
                refine jr_iload_n F dX8_closeWays_112 rfl ?_
                refine jr_bipush F dX8_closeWays_113 (by decide) ?_
                refine jr_icmp_ge (tgt := 138) F dX8_closeWays_115 (by decide) (fun c115 => ?_) (fun c115 => ?_) (by omega) (by omega)
                · skip
                  refine jr_iconst F dX8_closeWays_138 ?_
                  have hA : FA m (mm x) 11 := hk.resolve_right (fun q => by obtain ⟨a, ha, hn⟩ := q.1; have := hp a ha.1 (by omega); omega)
                  exact jr_zret F dX8_closeWays_139 (pB_of (bi_t (FA_c (Int.le_refl _) hA).2).symm ⟨hx, fun _ => ⟨(FA_c (Int.le_refl _) hA).1, hA.2.2.2, fun a b a0 a1 b0 b1 => by have q := hA.2.2.1 a b a0 a1 b0 b1; have p := p2k (k := 11) (Int.le_refl _); generalize ((2 ^ (11 : Int).toNat : Nat) : Int) = g at p q; omega⟩⟩) (by omega)
                · skip
                  refine jr_aload_n F dX8_closeWays_118 rfl ?_
                  refine jr_getR (t := 19) F dX8_closeWays_119 fg_X8_66 (Nat.le_of_ble_eq_true rfl) rfl rfl ?_
                  refine jr_bipush F dX8_closeWays_122 (by decide) ?_
                  refine jr_iload_n F dX8_closeWays_124 rfl ?_
                  refine jr_imul F dX8_closeWays_125 ?_
                  refine jr_iald F dX8_closeWays_126 (Nat.le_of_ble_eq_true rfl) rfl (by omega) (fun q126 => ?_) (by omega) (by omega)
                  refine jr_if_ge (tgt := 132) F dX8_closeWays_127 (by decide) (fun c127 => ?_) (fun c127 => ?_) (by omega)
                  · skip
                    refine jr_iinc F dX8_closeWays_132 rfl (Nat.le_of_ble_eq_true rfl) rfl ?_
                    refine jr_goto (tgt := 112) F dX8_closeWays_135 (by decide) ?_
                    exact jr_sub (ih112 (i + 1) (by omega) (by omega) (fun a a0 a1 => by by_cases e : a = i; (rw [e]; unfold mm; rw [show 11 * i + i = 12 * i by omega]; omega); exact hp a a0 (by omega))) ⟨rfl, rfl, trivial⟩
                  · skip
                    refine jr_iconst F dX8_closeWays_130 ?_
                    exact jr_zret F dX8_closeWays_131 (pB_of (bi_f (by rcases hk with q | q; (exact absurd (q.1 i i0.1 (by omega)) (by unfold mm; rw [show 11 * i + i = 12 * i by omega]; omega)); exact q.2)).symm ⟨hx, fun z => by rcases hk with q | q; (exact absurd (q.1 i i0.1 (by omega)) (by unfold mm; rw [show 11 * i + i = 12 * i by omega]; omega)); exact absurd z q.2⟩) (by omega)
          exact jr_sub (L112 _ 0 (Nat.lt_succ_self _) (by omega) (fun a a0 a1 => by omega)) ⟨rfl, rfl, trivial⟩
        · skip
          refine jr_iconst F dX8_closeWays_8 ?_
          refine jr_istore_n F dX8_closeWays_9 (Nat.le_of_ble_eq_true rfl) rfl ?_
          have L10 : ∀ (fuel : Nat) (y : Wd) (i : Int), (11 - i).toNat < fuel → (0 ≤ i ∧ i ≤ 11) → (c19 m y) → (FI m y k i 0) → Jw (GM B) X (pB (∃ v, Sat 11 (mm m) v) (fun u => c19 m u ∧ ((∃ v, Sat 11 (mm m) v) → CLD (mm u) ∧ (∀ v, Sat 11 (mm u) v ↔ Sat 11 (mm m) v) ∧ ∀ a b : Int, 0 ≤ a → a < 11 → 0 ≤ b → b < 11 → -100000000 ≤ mm u a b ∧ mm u a b ≤ 100000000))) 10 [some (.ref (ga (GM B) 0)), some (iv k), some (iv i)] [] y := by
            intro fuel
            induction fuel with
            | zero => intro y i hfuel; exact absurd hfuel (Nat.not_lt_zero _)
            | succ fuel ih10 =>
                intro y i hfuel i0 hy hi
                refine jr_iload_n F dX8_closeWays_10 rfl ?_
                refine jr_bipush F dX8_closeWays_11 (by decide) ?_
                refine jr_icmp_ge (tgt := 104) F dX8_closeWays_13 (by decide) (fun c13 => ?_) (fun c13 => ?_) (by omega) (by omega)
                · skip
                  refine jr_iinc F dX8_closeWays_104 rfl (Nat.le_of_ble_eq_true rfl) rfl ?_
                  refine jr_goto (tgt := 2) F dX8_closeWays_107 (by decide) ?_
                  exact jr_sub (ih2 _ (k + 1) (by omega) (by omega) hy (FK_s k0.1 (by omega) (by omega) hi)) ⟨rfl, rfl, trivial⟩
                · skip
                  refine jr_iconst F dX8_closeWays_16 ?_
                  refine jr_istore_n F dX8_closeWays_17 (Nat.le_of_ble_eq_true rfl) rfl ?_
                  have L18 : ∀ (fuel : Nat) (u : Wd) (j : Int), (11 - j).toNat < fuel → (0 ≤ j ∧ j ≤ 11) → (c19 m u) → (FI m u k i j) → Jw (GM B) X (pB (∃ v, Sat 11 (mm m) v) (fun u => c19 m u ∧ ((∃ v, Sat 11 (mm m) v) → CLD (mm u) ∧ (∀ v, Sat 11 (mm u) v ↔ Sat 11 (mm m) v) ∧ ∀ a b : Int, 0 ≤ a → a < 11 → 0 ≤ b → b < 11 → -100000000 ≤ mm u a b ∧ mm u a b ≤ 100000000))) 18 [some (.ref (ga (GM B) 0)), some (iv k), some (iv i), some (iv j)] [] u := by
                    intro fuel
                    induction fuel with
                    | zero => intro u j hfuel; exact absurd hfuel (Nat.not_lt_zero _)
                    | succ fuel ih18 =>
                        intro u j hfuel j0 hu hj
                        refine jr_iload_n F dX8_closeWays_18 rfl ?_
                        refine jr_bipush F dX8_closeWays_19 (by decide) ?_
                        refine jr_icmp_ge (tgt := 98) F dX8_closeWays_21 (by decide) (fun c21 => ?_) (fun c21 => ?_) (by omega) (by omega)
                        · skip
                          refine jr_iinc F dX8_closeWays_98 rfl (Nat.le_of_ble_eq_true rfl) rfl ?_
                          refine jr_goto (tgt := 10) F dX8_closeWays_101 (by decide) ?_
                          exact jr_sub (ih10 _ (i + 1) (by omega) (by omega) hu (FI_row (by omega) hj)) ⟨rfl, rfl, rfl, trivial⟩
                        · skip
                          refine jr_aload_n F dX8_closeWays_24 rfl ?_
                          refine jr_getR (t := 19) F dX8_closeWays_25 fg_X8_66 (Nat.le_of_ble_eq_true rfl) rfl rfl ?_
                          refine jr_bipush F dX8_closeWays_28 (by decide) ?_
                          refine jr_iload_n F dX8_closeWays_30 rfl ?_
                          refine jr_imul F dX8_closeWays_31 ?_
                          refine jr_iload_n F dX8_closeWays_32 rfl ?_
                          refine jr_iadd F dX8_closeWays_33 ?_
                          refine jr_iald F dX8_closeWays_34 (Nat.le_of_ble_eq_true rfl) rfl (by omega) (fun q34 => ?_) (by omega) (by omega)
                          refine jr_aload_n F dX8_closeWays_35 rfl ?_
                          refine jr_getR (t := 19) F dX8_closeWays_36 fg_X8_66 (Nat.le_of_ble_eq_true rfl) rfl rfl ?_
                          refine jr_bipush F dX8_closeWays_39 (by decide) ?_
                          refine jr_iload_n F dX8_closeWays_41 rfl ?_
                          refine jr_imul F dX8_closeWays_42 ?_
                          refine jr_iload_n F dX8_closeWays_43 rfl ?_
                          refine jr_iadd F dX8_closeWays_44 ?_
                          refine jr_iald F dX8_closeWays_45 (Nat.le_of_ble_eq_true rfl) rfl (by omega) (fun q45 => ?_) (by omega) (by omega)
                          refine jr_iadd F dX8_closeWays_46 ?_
                          refine jr_ni (b := (wrI (u 19 (11 * i + k) + u 19 (11 * k + j)))) (wrI_e _) ?_
                          have wR := wrI_R (u 19 (11 * i + k) + u 19 (11 * k + j))
                          refine jr_istore F dX8_closeWays_47 (Nat.le_of_ble_eq_true rfl) rfl ?_
                          refine jr_aload_n F dX8_closeWays_49 rfl ?_
                          refine jr_getR (t := 19) F dX8_closeWays_50 fg_X8_66 (Nat.le_of_ble_eq_true rfl) rfl rfl ?_
                          refine jr_bipush F dX8_closeWays_53 (by decide) ?_
                          refine jr_iload_n F dX8_closeWays_55 rfl ?_
                          refine jr_imul F dX8_closeWays_56 ?_
                          refine jr_iload_n F dX8_closeWays_57 rfl ?_
                          refine jr_iadd F dX8_closeWays_58 ?_
                          refine jr_iload F dX8_closeWays_59 rfl ?_
                          refine jr_aload_n F dX8_closeWays_61 rfl ?_
                          refine jr_getR (t := 19) F dX8_closeWays_62 fg_X8_66 (Nat.le_of_ble_eq_true rfl) rfl rfl ?_
                          refine jr_bipush F dX8_closeWays_65 (by decide) ?_
                          refine jr_iload_n F dX8_closeWays_67 rfl ?_
                          refine jr_imul F dX8_closeWays_68 ?_
                          refine jr_iload_n F dX8_closeWays_69 rfl ?_
                          refine jr_iadd F dX8_closeWays_70 ?_
                          refine jr_iald F dX8_closeWays_71 (Nat.le_of_ble_eq_true rfl) rfl (by omega) (fun q71 => ?_) (by omega) (by omega)
                          refine jr_icmp_ge (tgt := 80) F dX8_closeWays_72 (by decide) (fun c72 => ?_) (fun c72 => ?_) (by omega) (by omega)
                          · skip
                            refine jr_aload_n F dX8_closeWays_80 rfl ?_
                            refine jr_getR (t := 19) F dX8_closeWays_81 fg_X8_66 (Nat.le_of_ble_eq_true rfl) rfl rfl ?_
                            refine jr_bipush F dX8_closeWays_84 (by decide) ?_
                            refine jr_iload_n F dX8_closeWays_86 rfl ?_
                            refine jr_imul F dX8_closeWays_87 ?_
                            refine jr_iload_n F dX8_closeWays_88 rfl ?_
                            refine jr_iadd F dX8_closeWays_89 ?_
                            refine jr_iald F dX8_closeWays_90 (Nat.le_of_ble_eq_true rfl) rfl (by omega) (fun q90 => ?_) (by omega) (by omega)
                            refine jr_iastx F dX8_closeWays_91 (Nat.le_of_ble_eq_true rfl) rfl (by omega) (fun w91 e91 => ?_) (by omega) (by omega) (by omega)
                            refine jr_iinc F dX8_closeWays_92 rfl (Nat.le_of_ble_eq_true rfl) rfl ?_
                            refine jr_goto (tgt := 18) F dX8_closeWays_95 (by decide) ?_
                            exact jr_sub (ih18 _ (j + 1) (by omega) (by omega) (by subst e91; exact c19_up hu _ _) (by subst e91; exact FI_s k0.1 (by omega) i0.1 (by omega) j0.1 (by omega) hj (by unfold mm; omega))) ⟨rfl, rfl, rfl, rfl, trivial⟩
                          · skip
                            refine jr_iload F dX8_closeWays_75 rfl ?_
                            refine jr_goto (tgt := 91) F dX8_closeWays_77 (by decide) ?_
                            refine jr_iastx F dX8_closeWays_91 (Nat.le_of_ble_eq_true rfl) rfl (by omega) (fun w91_1 e91_1 => ?_) (by omega) (by omega) (by omega)
                            refine jr_iinc F dX8_closeWays_92 rfl (Nat.le_of_ble_eq_true rfl) rfl ?_
                            refine jr_goto (tgt := 18) F dX8_closeWays_95 (by decide) ?_
                            exact jr_sub (ih18 _ (j + 1) (by omega) (by omega) (by subst e91_1; exact c19_up hu _ _) (by subst e91_1; exact FI_s k0.1 (by omega) i0.1 (by omega) j0.1 (by omega) hj (by unfold mm; omega))) ⟨rfl, rfl, rfl, rfl, trivial⟩
                  exact jr_sub (L18 _ _ 0 (Nat.lt_succ_self _) (by omega) hy hi) ⟨rfl, rfl, rfl, rfl, trivial⟩
          exact jr_sub (L10 _ _ 0 (Nat.lt_succ_self _) (by omega) hx (FI_0 hk)) ⟨rfl, rfl, rfl, trivial⟩
  exact jr_sub (L2 _ _ 0 (Nat.lt_succ_self _) (by omega) (c19_r m) (Or.inl (FA_0 hB))) ⟨rfl, rfl, trivial⟩

/-- misread ones ahead of a reign -/
noncomputable def mra (w : Wd) (p : Int) : Int := cnq (fun r => isMis (fa w r 1)) p.toNat
theorem mra_R {w : Wd} {p n : Int} (h0 : 0 ≤ p) (h1 : p ≤ n) : 0 ≤ mra w p ∧ mra w p ≤ n := cnq_R2 h0 h1
theorem mra_y {w : Wd} {p : Int} (h0 : 0 ≤ p) (h : isMis (fa w p 1)) : mra w (p + 1) = mra w p + 1 := cnq_y (P := fun r => isMis (fa w r 1)) h0 h
theorem mra_n {w : Wd} {p : Int} (h0 : 0 ≤ p) (h : ¬ isMis (fa w p 1)) : mra w (p + 1) = mra w p := cnq_n (P := fun r => isMis (fa w r 1)) h0 h

set_option maxRecDepth 100000 in
set_option maxHeartbeats 4000000 in
theorem c_X8_misreadAhead {B : Bs} {w m : Wd} {p : Int} (hM : RM w m) (h3 : 0 ≤ w 1 3 ∧ w 1 3 ≤ 10) (hp : 0 ≤ p ∧ p < w 1 3) : Sp (GM B) 1 yX8_misreadAhead cX8_misreadAhead 4 (Option.some FieldType.int) [.ref (ga (GM B) (0)), iv (p)] m (pI m (mra w p)) := by
  refine Sp.of (by decide) (Nat.le_of_ble_eq_true rfl) (fun X F => ?_)
  show Jw (GM B) X _ 0 [some (.ref (ga (GM B) (0))), some (iv (p))] [] m
  refine jr_iconst F dX8_misreadAhead_0 ?_
  refine jr_istore_n F dX8_misreadAhead_1 (Nat.le_of_ble_eq_true rfl) rfl ?_
  refine jr_iconst F dX8_misreadAhead_2 ?_
  refine jr_istore_n F dX8_misreadAhead_3 (Nat.le_of_ble_eq_true rfl) rfl ?_
  have L4 : ∀ (fuel : Nat) (i : Int) (z : Int), (p - i).toNat < fuel → (0 ≤ i) → (i ≤ p) → (z = mra w i) → Jw (GM B) X (pI m (mra w p)) 4 [some (.ref (ga (GM B) 0)), some (iv p), some (iv z), some (iv i)] [] m := by
    intro fuel
    induction fuel with
    | zero => intro i z hfuel; exact absurd hfuel (Nat.not_lt_zero _)
    | succ fuel ih4 =>
        intro i z hfuel i0 i1 hz
        have zR := mra_R (w := w) i0 (show i ≤ 10 by omega)
        refine jr_iload_n F dX8_misreadAhead_4 rfl ?_
        refine jr_iload_n F dX8_misreadAhead_5 rfl ?_
        refine jr_icmp_ge (tgt := 35) F dX8_misreadAhead_6 (by decide) (fun c6 => ?_) (fun c6 => ?_) (by omega) (by omega)
        · skip
          refine jr_iload_n F dX8_misreadAhead_35 rfl ?_
          exact jr_iret F dX8_misreadAhead_36 (pI_of (by rw [hz, show i = p by omega]) rfl)
        · skip
          refine jr_iload_n F dX8_misreadAhead_9 rfl ?_
          refine jr_aload_n F dX8_misreadAhead_10 rfl ?_
          refine jr_getR (t := 2) F dX8_misreadAhead_11 fg_X8_13 (Nat.le_of_ble_eq_true rfl) rfl rfl ?_
          refine jr_iload_n F dX8_misreadAhead_14 rfl ?_
          refine jr_iald F dX8_misreadAhead_15 (Nat.le_of_ble_eq_true rfl) rfl (by omega) (fun q15 => ?_) (by omega) (by omega)
          have v15 : m 2 (i) = (fa w i 1) := (rmf1 hM (r := i) (by omega) (by omega))
          rw [v15] at q15
          refine jr_ti v15 ?_
          refine jr_sI F dX8_misreadAhead_16 cs_X8_100 (c_X8_isMisread (by omega)) rfl (Nat.le_of_ble_eq_true rfl) (Nat.le_of_ble_eq_true rfl) rfl (Nat.le_of_ble_eq_true rfl) ?_
          refine jr_ifeq_b (tgt := 26) F dX8_misreadAhead_19 (by decide) (fun c19 => ?_) (fun c19 => ?_)
          · skip
            refine jr_iconst F dX8_misreadAhead_26 ?_
            refine jr_iadd F dX8_misreadAhead_27 ?_
            refine jr_istore_n F dX8_misreadAhead_28 (Nat.le_of_ble_eq_true rfl) rfl ?_
            refine jr_iinc F dX8_misreadAhead_29 rfl (Nat.le_of_ble_eq_true rfl) rfl ?_
            refine jr_goto (tgt := 4) F dX8_misreadAhead_32 (by decide) ?_
            exact jr_sub (ih4 (i + 1) _ (by omega) (by omega) (by omega) (by first | (rw [mra_n i0 (by assumption), hz]; omega) | (rw [mra_y i0 (by assumption), hz]))) ⟨rfl, rfl, rfl, rfl, trivial⟩
          · skip
            refine jr_iconst F dX8_misreadAhead_22 ?_
            refine jr_goto (tgt := 27) F dX8_misreadAhead_23 (by decide) ?_
            refine jr_iadd F dX8_misreadAhead_27 ?_
            refine jr_istore_n F dX8_misreadAhead_28 (Nat.le_of_ble_eq_true rfl) rfl ?_
            refine jr_iinc F dX8_misreadAhead_29 rfl (Nat.le_of_ble_eq_true rfl) rfl ?_
            refine jr_goto (tgt := 4) F dX8_misreadAhead_32 (by decide) ?_
            exact jr_sub (ih4 (i + 1) _ (by omega) (by omega) (by omega) (by first | (rw [mra_n i0 (by assumption), hz]; omega) | (rw [mra_y i0 (by assumption), hz]))) ⟨rfl, rfl, rfl, rfl, trivial⟩
  exact jr_sub (L4 _ 0 0 (Nat.lt_succ_self _) (by omega) (by omega) rfl) ⟨rfl, rfl, rfl, rfl, trivial⟩

/-- least and greatest so far, of a world's kept ends -/
def tkR (w m : Wd) (e n : Int) (u : Wd) : Prop := (∀ k : Nat, k ≠ 21 → k ≠ 22 → u k = m k) ∧ (∀ r : Int, 0 ≤ r → r < n → fa w r 4 ≤ e → u 21 r = (if m 0 30 = 0 ∨ -(mm m r 10) < m 21 r then -(mm m r 10) else m 21 r) ∧ u 22 r = (if m 0 30 = 0 ∨ m 22 r < mm m 10 r then mm m 10 r else m 22 r)) ∧ ∀ r : Int, (n ≤ r ∨ ¬ fa w r 4 ≤ e) → u 21 r = m 21 r ∧ u 22 r = m 22 r
theorem tkR_0 (w m : Wd) (e : Int) : tkR w m e 0 m := ⟨fun _ _ _ => rfl, fun r a b => by omega, fun _ _ => ⟨rfl, rfl⟩⟩
theorem tkR_n {w m u : Wd} {e n : Int} (h : tkR w m e n u) (hn : ¬ fa w n 4 ≤ e) : tkR w m e (n + 1) u := ⟨h.1, fun r r0 r1 hr => h.2.1 r r0 (by by_cases q : r = n; (rw [q] at hr; exact absurd hr hn); omega) hr, fun r hr => by
  by_cases q : n ≤ r ∨ ¬ fa w r 4 ≤ e
  · exact h.2.2 r q
  · exact absurd (show n ≤ r ∨ ¬ fa w r 4 ≤ e by omega) q⟩
theorem tkR_y {w m u : Wd} {e n l g : Int} (h : tkR w m e n u) (n0 : 0 ≤ n) (hn : fa w n 4 ≤ e) (hl : l = if m 0 30 = 0 ∨ -(mm m n 10) < m 21 n then -(mm m n 10) else m 21 n) (hg : g = if m 0 30 = 0 ∨ m 22 n < mm m 10 n then mm m 10 n else m 22 n) : tkR w m e (n + 1) (up (up u 21 n l) 22 n g) := by
  refine ⟨fun k a b => by rw [up_cell b, up_cell a]; exact h.1 k a b, fun r r0 r1 hr => ?_, fun r hr => ?_⟩
  · by_cases q : r = n
    · subst q
      exact ⟨by rw [up_cell (by decide), up_self]; exact hl, by rw [up_self]; exact hg⟩
    · have y := h.2.1 r r0 (by omega) hr
      exact ⟨by rw [up_cell (by decide), up_ne (by omega)]; exact y.1, by rw [up_ne (by omega), up_cell (by decide)]; exact y.2⟩
  · by_cases q : r = n
    · subst q; omega
    · have y := h.2.2 r (by omega)
      exact ⟨by rw [up_cell (by decide), up_ne (by omega)]; exact y.1, by rw [up_ne (by omega), up_cell (by decide)]; exact y.2⟩

set_option maxRecDepth 100000 in
set_option maxHeartbeats 4000000 in
theorem c_X8_take {B : Bs} {w m : Wd} {e : Int} (hM : RM w m) (h3 : 0 ≤ w 1 3 ∧ w 1 3 ≤ 10) (he : inR e) (hC : ∀ a b : Int, 0 ≤ a → a < 11 → 0 ≤ b → b < 11 → -100000000 ≤ mm m a b ∧ mm m a b ≤ 100000000) : Sp (GM B) 1 yX8_take cX8_take 5 (Option.none : Option FieldType) [.ref (ga (GM B) (0)), iv (e)] m (pU (fun u => ∃ x, tkR w m e (w 1 3) x ∧ u = up x 0 30 1)) := by
  refine Sp.of (by decide) (Nat.le_of_ble_eq_true rfl) (fun X F => ?_)
  show Jw (GM B) X _ 0 [some (.ref (ga (GM B) (0))), some (iv (e))] [] m
  refine jr_iconst F dX8_take_0 ?_
  refine jr_istore_n F dX8_take_1 (Nat.le_of_ble_eq_true rfl) rfl ?_
  have L2 : ∀ (fuel : Nat) (u : Wd) (i : Int), (w 1 3 - i).toNat < fuel → (0 ≤ i) → (i ≤ w 1 3) → (tkR w m e i u) → Jw (GM B) X (pU (fun u => ∃ x, tkR w m e (w 1 3) x ∧ u = up x 0 30 1)) 2 [some (.ref (ga (GM B) 0)), some (iv e), some (iv i)] [] u := by
    intro fuel
    induction fuel with
    | zero => intro u i hfuel; exact absurd hfuel (Nat.not_lt_zero _)
    | succ fuel ih2 =>
        intro u i hfuel i0 i1 hu
        have u19 : u 19 = m 19 := hu.1 19 (by decide) (by decide)
        have u0 : u 0 = m 0 := hu.1 0 (by decide) (by decide)
        have hMu : RM w u := sm_RM ⟨fun k a b => hu.1 k (by omega) (by omega), by rw [u0], by rw [u0], by rw [u0], by rw [u0], by rw [u0]⟩ hM
        have ui := hu.2.2 i (Or.inl (Int.le_refl _))
        refine jr_iload_n F dX8_take_2 rfl ?_
        refine jr_aload_n F dX8_take_3 rfl ?_
        refine jr_getIx F (w 1 3) dX8_take_4 fg_X8_84 (Nat.le_of_ble_eq_true rfl) rfl rfl ((show u 0 0 = (w 1 3) from rn0 hMu)) (fun q4 => ?_)
        refine jr_icmp_ge (tgt := 118) F dX8_take_7 (by decide) (fun c7 => ?_) (fun c7 => ?_) (by omega) (by omega)
        · skip
          refine jr_aload_n F dX8_take_118 rfl ?_
          refine jr_iconst F dX8_take_119 ?_
          refine jr_putZx F dX8_take_120 fp_X8_201 (Nat.le_of_ble_eq_true rfl) rfl rfl (by omega) (fun w120 e120 => ?_)
          obtain rfl : i = w 1 3 := by omega
          exact jr_vret F dX8_take_123 ⟨rfl, u, hu, by subst e120; rfl⟩
        · skip
          refine jr_aload_n F dX8_take_10 rfl ?_
          refine jr_iload_n F dX8_take_11 rfl ?_
          refine jr_iload_n F dX8_take_12 rfl ?_
          refine jr_vI F dX8_take_13 cv_X8_188 (c_X8_isKnown hMu (by omega) (by omega)) (Nat.le_of_ble_eq_true rfl) rfl rfl rfl rfl (Nat.le_of_ble_eq_true rfl) (Nat.le_of_ble_eq_true rfl) rfl (Nat.le_of_ble_eq_true rfl) ?_
          refine jr_ifeq_b (tgt := 112) F dX8_take_16 (by decide) (fun c16 => ?_) (fun c16 => ?_)
          · skip
            refine jr_iinc F dX8_take_112 rfl (Nat.le_of_ble_eq_true rfl) rfl ?_
            refine jr_goto (tgt := 2) F dX8_take_115 (by decide) ?_
            exact jr_sub (ih2 _ (i + 1) (by omega) (by omega) (by omega) (tkR_n hu c16)) ⟨rfl, rfl, rfl, trivial⟩
          · skip
            have k1 := hC i 10 (by omega) (by omega) (by omega) (by omega)
            have k2 := hC 10 i (by omega) (by omega) (by omega) (by omega)
            refine jr_aload_n F dX8_take_19 rfl ?_
            refine jr_getR (t := 19) F dX8_take_20 fg_X8_66 (Nat.le_of_ble_eq_true rfl) rfl rfl ?_
            refine jr_bipush F dX8_take_23 (by decide) ?_
            refine jr_iload_n F dX8_take_25 rfl ?_
            refine jr_imul F dX8_take_26 ?_
            refine jr_bipush F dX8_take_27 (by decide) ?_
            refine jr_iadd F dX8_take_29 ?_
            refine jr_iald F dX8_take_30 (Nat.le_of_ble_eq_true rfl) rfl (by omega) (fun q30 => ?_) (by omega) (by omega)
            refine jr_ti (b := (mm m i 10)) (by rw [u19]; rfl) ?_
            refine jr_ineg F dX8_take_31 ?_
            refine jr_istore_n F dX8_take_32 (Nat.le_of_ble_eq_true rfl) rfl ?_
            refine jr_aload_n F dX8_take_33 rfl ?_
            refine jr_getR (t := 19) F dX8_take_34 fg_X8_66 (Nat.le_of_ble_eq_true rfl) rfl rfl ?_
            refine jr_bipush F dX8_take_37 (by decide) ?_
            refine jr_iload_n F dX8_take_39 rfl ?_
            refine jr_iadd F dX8_take_40 ?_
            refine jr_iald F dX8_take_41 (Nat.le_of_ble_eq_true rfl) rfl (by omega) (fun q41 => ?_) (by omega) (by omega)
            refine jr_ti (b := (mm m 10 i)) (by rw [u19]; rfl) ?_
            refine jr_istore F dX8_take_42 (Nat.le_of_ble_eq_true rfl) rfl ?_
            refine jr_ok (fun hO => ?_)
            have k3 : inR (m 21 i) := by rw [← ui.1]; exact hO.1 21 0 10 rfl i (by omega) (by omega)
            have k4 : inR (m 22 i) := by rw [← ui.2]; exact hO.1 22 0 10 rfl i (by omega) (by omega)
            refine jr_aload_n F dX8_take_44 rfl ?_
            refine jr_getR (t := 21) F dX8_take_45 fg_X8_72 (Nat.le_of_ble_eq_true rfl) rfl rfl ?_
            refine jr_iload_n F dX8_take_48 rfl ?_
            refine jr_aload_n F dX8_take_49 rfl ?_
            refine jr_getZx F (m 0 30) dX8_take_50 fg_X8_201 (Nat.le_of_ble_eq_true rfl) rfl rfl (congrFun u0 30) (fun q50 => ?_)
            refine jr_if_eq (tgt := 66) F dX8_take_53 (by decide) (fun c53 => ?_) (fun c53 => ?_) (by omega)
            · skip
              refine jr_iload_n F dX8_take_66 rfl ?_
              refine jr_goto (tgt := 76) F dX8_take_67 (by decide) ?_
              refine jr_iastx F dX8_take_76 (Nat.le_of_ble_eq_true rfl) rfl (by omega) (fun w76 e76 => ?_) (by omega) (by omega) (by omega)
              refine jr_aload_n F dX8_take_77 rfl ?_
              refine jr_getR (t := 22) F dX8_take_78 fg_X8_75 (Nat.le_of_ble_eq_true rfl) rfl rfl ?_
              refine jr_iload_n F dX8_take_81 rfl ?_
              refine jr_aload_n F dX8_take_82 rfl ?_
              refine jr_getZx F (m 0 30) dX8_take_83 fg_X8_201 (Nat.le_of_ble_eq_true rfl) rfl rfl (by subst e76; exact congrFun u0 30) (fun q83 => ?_)
              refine jr_if_eq (tgt := 100) F dX8_take_86 (by decide) (fun c86 => ?_) (fun c86 => ?_) (by omega)
              · skip
                refine jr_iload F dX8_take_100 rfl ?_
                refine jr_goto (tgt := 111) F dX8_take_102 (by decide) ?_
                refine jr_iastx F dX8_take_111 (Nat.le_of_ble_eq_true rfl) rfl (by omega) (fun w111 e111 => ?_) (by omega) (by omega) (by omega)
                refine jr_iinc F dX8_take_112 rfl (Nat.le_of_ble_eq_true rfl) rfl ?_
                refine jr_goto (tgt := 2) F dX8_take_115 (by decide) ?_
                exact jr_sub (ih2 _ (i + 1) (by omega) (by omega) (by omega) (by rw [e111, e76]; exact tkR_y hu i0 c16 (by first | (rw [if_pos (by omega)]; done) | (rw [if_neg (by omega)])) (by first | (rw [if_pos (by omega)]; done) | (rw [if_neg (by omega)])))) ⟨rfl, rfl, rfl, trivial⟩
              · skip
                refine jr_iload F dX8_take_89 rfl ?_
                refine jr_aload_n F dX8_take_91 rfl ?_
                refine jr_getR (t := 22) F dX8_take_92 fg_X8_75 (Nat.le_of_ble_eq_true rfl) rfl rfl ?_
                refine jr_iload_n F dX8_take_95 rfl ?_
                refine jr_iald F dX8_take_96 (Nat.le_of_ble_eq_true rfl) rfl (by omega) (fun q96 => ?_) (by omega) (by omega)
                refine jr_ti (b := (m 22 i)) (by subst e76; rw [up_cell (by decide)]; exact ui.2) ?_
                refine jr_icmp_le (tgt := 105) F dX8_take_97 (by decide) (fun c97 => ?_) (fun c97 => ?_) (by omega) (by omega)
                · skip
                  refine jr_aload_n F dX8_take_105 rfl ?_
                  refine jr_getR (t := 22) F dX8_take_106 fg_X8_75 (Nat.le_of_ble_eq_true rfl) rfl rfl ?_
                  refine jr_iload_n F dX8_take_109 rfl ?_
                  refine jr_iald F dX8_take_110 (Nat.le_of_ble_eq_true rfl) rfl (by omega) (fun q110 => ?_) (by omega) (by omega)
                  refine jr_ti (b := (m 22 i)) (by subst e76; rw [up_cell (by decide)]; exact ui.2) ?_
                  refine jr_iastx F dX8_take_111 (Nat.le_of_ble_eq_true rfl) rfl (by omega) (fun w111_1 e111_1 => ?_) (by omega) (by omega) (by omega)
                  refine jr_iinc F dX8_take_112 rfl (Nat.le_of_ble_eq_true rfl) rfl ?_
                  refine jr_goto (tgt := 2) F dX8_take_115 (by decide) ?_
                  exact jr_sub (ih2 _ (i + 1) (by omega) (by omega) (by omega) (by rw [e111_1, e76]; exact tkR_y hu i0 c16 (by first | (rw [if_pos (by omega)]; done) | (rw [if_neg (by omega)])) (by first | (rw [if_pos (by omega)]; done) | (rw [if_neg (by omega)])))) ⟨rfl, rfl, rfl, trivial⟩
                · skip
                  refine jr_iload F dX8_take_100 rfl ?_
                  refine jr_goto (tgt := 111) F dX8_take_102 (by decide) ?_
                  refine jr_iastx F dX8_take_111 (Nat.le_of_ble_eq_true rfl) rfl (by omega) (fun w111_2 e111_2 => ?_) (by omega) (by omega) (by omega)
                  refine jr_iinc F dX8_take_112 rfl (Nat.le_of_ble_eq_true rfl) rfl ?_
                  refine jr_goto (tgt := 2) F dX8_take_115 (by decide) ?_
                  exact jr_sub (ih2 _ (i + 1) (by omega) (by omega) (by omega) (by rw [e111_2, e76]; exact tkR_y hu i0 c16 (by first | (rw [if_pos (by omega)]; done) | (rw [if_neg (by omega)])) (by first | (rw [if_pos (by omega)]; done) | (rw [if_neg (by omega)])))) ⟨rfl, rfl, rfl, trivial⟩
            · skip
              refine jr_iload_n F dX8_take_56 rfl ?_
              refine jr_aload_n F dX8_take_57 rfl ?_
              refine jr_getR (t := 21) F dX8_take_58 fg_X8_72 (Nat.le_of_ble_eq_true rfl) rfl rfl ?_
              refine jr_iload_n F dX8_take_61 rfl ?_
              refine jr_iald F dX8_take_62 (Nat.le_of_ble_eq_true rfl) rfl (by omega) (fun q62 => ?_) (by omega) (by omega)
              refine jr_ti (b := (m 21 i)) ui.1 ?_
              refine jr_icmp_ge (tgt := 70) F dX8_take_63 (by decide) (fun c63 => ?_) (fun c63 => ?_) (by omega) (by omega)
              · skip
                refine jr_aload_n F dX8_take_70 rfl ?_
                refine jr_getR (t := 21) F dX8_take_71 fg_X8_72 (Nat.le_of_ble_eq_true rfl) rfl rfl ?_
                refine jr_iload_n F dX8_take_74 rfl ?_
                refine jr_iald F dX8_take_75 (Nat.le_of_ble_eq_true rfl) rfl (by omega) (fun q75 => ?_) (by omega) (by omega)
                refine jr_ti (b := (m 21 i)) ui.1 ?_
                refine jr_iastx F dX8_take_76 (Nat.le_of_ble_eq_true rfl) rfl (by omega) (fun w76_1 e76_1 => ?_) (by omega) (by omega) (by omega)
                refine jr_aload_n F dX8_take_77 rfl ?_
                refine jr_getR (t := 22) F dX8_take_78 fg_X8_75 (Nat.le_of_ble_eq_true rfl) rfl rfl ?_
                refine jr_iload_n F dX8_take_81 rfl ?_
                refine jr_aload_n F dX8_take_82 rfl ?_
                refine jr_getZx F (m 0 30) dX8_take_83 fg_X8_201 (Nat.le_of_ble_eq_true rfl) rfl rfl (by subst e76_1; exact congrFun u0 30) (fun q83 => ?_)
                refine jr_if_eq (tgt := 100) F dX8_take_86 (by decide) (fun c86 => ?_) (fun c86 => ?_) (by omega)
                · skip
                  refine jr_iload F dX8_take_100 rfl ?_
                  refine jr_goto (tgt := 111) F dX8_take_102 (by decide) ?_
                  refine jr_iastx F dX8_take_111 (Nat.le_of_ble_eq_true rfl) rfl (by omega) (fun w111_3 e111_3 => ?_) (by omega) (by omega) (by omega)
                  refine jr_iinc F dX8_take_112 rfl (Nat.le_of_ble_eq_true rfl) rfl ?_
                  refine jr_goto (tgt := 2) F dX8_take_115 (by decide) ?_
                  exact jr_sub (ih2 _ (i + 1) (by omega) (by omega) (by omega) (by rw [e111_3, e76_1]; exact tkR_y hu i0 c16 (by first | (rw [if_pos (by omega)]; done) | (rw [if_neg (by omega)])) (by first | (rw [if_pos (by omega)]; done) | (rw [if_neg (by omega)])))) ⟨rfl, rfl, rfl, trivial⟩
                · skip
                  refine jr_iload F dX8_take_89 rfl ?_
                  refine jr_aload_n F dX8_take_91 rfl ?_
                  refine jr_getR (t := 22) F dX8_take_92 fg_X8_75 (Nat.le_of_ble_eq_true rfl) rfl rfl ?_
                  refine jr_iload_n F dX8_take_95 rfl ?_
                  refine jr_iald F dX8_take_96 (Nat.le_of_ble_eq_true rfl) rfl (by omega) (fun q96 => ?_) (by omega) (by omega)
                  refine jr_ti (b := (m 22 i)) (by subst e76_1; rw [up_cell (by decide)]; exact ui.2) ?_
                  refine jr_icmp_le (tgt := 105) F dX8_take_97 (by decide) (fun c97 => ?_) (fun c97 => ?_) (by omega) (by omega)
                  · skip
                    refine jr_aload_n F dX8_take_105 rfl ?_
                    refine jr_getR (t := 22) F dX8_take_106 fg_X8_75 (Nat.le_of_ble_eq_true rfl) rfl rfl ?_
                    refine jr_iload_n F dX8_take_109 rfl ?_
                    refine jr_iald F dX8_take_110 (Nat.le_of_ble_eq_true rfl) rfl (by omega) (fun q110 => ?_) (by omega) (by omega)
                    refine jr_ti (b := (m 22 i)) (by subst e76_1; rw [up_cell (by decide)]; exact ui.2) ?_
                    refine jr_iastx F dX8_take_111 (Nat.le_of_ble_eq_true rfl) rfl (by omega) (fun w111_4 e111_4 => ?_) (by omega) (by omega) (by omega)
                    refine jr_iinc F dX8_take_112 rfl (Nat.le_of_ble_eq_true rfl) rfl ?_
                    refine jr_goto (tgt := 2) F dX8_take_115 (by decide) ?_
                    exact jr_sub (ih2 _ (i + 1) (by omega) (by omega) (by omega) (by rw [e111_4, e76_1]; exact tkR_y hu i0 c16 (by first | (rw [if_pos (by omega)]; done) | (rw [if_neg (by omega)])) (by first | (rw [if_pos (by omega)]; done) | (rw [if_neg (by omega)])))) ⟨rfl, rfl, rfl, trivial⟩
                  · skip
                    refine jr_iload F dX8_take_100 rfl ?_
                    refine jr_goto (tgt := 111) F dX8_take_102 (by decide) ?_
                    refine jr_iastx F dX8_take_111 (Nat.le_of_ble_eq_true rfl) rfl (by omega) (fun w111_5 e111_5 => ?_) (by omega) (by omega) (by omega)
                    refine jr_iinc F dX8_take_112 rfl (Nat.le_of_ble_eq_true rfl) rfl ?_
                    refine jr_goto (tgt := 2) F dX8_take_115 (by decide) ?_
                    exact jr_sub (ih2 _ (i + 1) (by omega) (by omega) (by omega) (by rw [e111_5, e76_1]; exact tkR_y hu i0 c16 (by first | (rw [if_pos (by omega)]; done) | (rw [if_neg (by omega)])) (by first | (rw [if_pos (by omega)]; done) | (rw [if_neg (by omega)])))) ⟨rfl, rfl, rfl, trivial⟩
              · skip
                refine jr_iload_n F dX8_take_66 rfl ?_
                refine jr_goto (tgt := 76) F dX8_take_67 (by decide) ?_
                refine jr_iastx F dX8_take_76 (Nat.le_of_ble_eq_true rfl) rfl (by omega) (fun w76_2 e76_2 => ?_) (by omega) (by omega) (by omega)
                refine jr_aload_n F dX8_take_77 rfl ?_
                refine jr_getR (t := 22) F dX8_take_78 fg_X8_75 (Nat.le_of_ble_eq_true rfl) rfl rfl ?_
                refine jr_iload_n F dX8_take_81 rfl ?_
                refine jr_aload_n F dX8_take_82 rfl ?_
                refine jr_getZx F (m 0 30) dX8_take_83 fg_X8_201 (Nat.le_of_ble_eq_true rfl) rfl rfl (by subst e76_2; exact congrFun u0 30) (fun q83 => ?_)
                refine jr_if_eq (tgt := 100) F dX8_take_86 (by decide) (fun c86 => ?_) (fun c86 => ?_) (by omega)
                · skip
                  refine jr_iload F dX8_take_100 rfl ?_
                  refine jr_goto (tgt := 111) F dX8_take_102 (by decide) ?_
                  refine jr_iastx F dX8_take_111 (Nat.le_of_ble_eq_true rfl) rfl (by omega) (fun w111_6 e111_6 => ?_) (by omega) (by omega) (by omega)
                  refine jr_iinc F dX8_take_112 rfl (Nat.le_of_ble_eq_true rfl) rfl ?_
                  refine jr_goto (tgt := 2) F dX8_take_115 (by decide) ?_
                  exact jr_sub (ih2 _ (i + 1) (by omega) (by omega) (by omega) (by rw [e111_6, e76_2]; exact tkR_y hu i0 c16 (by first | (rw [if_pos (by omega)]; done) | (rw [if_neg (by omega)])) (by first | (rw [if_pos (by omega)]; done) | (rw [if_neg (by omega)])))) ⟨rfl, rfl, rfl, trivial⟩
                · skip
                  refine jr_iload F dX8_take_89 rfl ?_
                  refine jr_aload_n F dX8_take_91 rfl ?_
                  refine jr_getR (t := 22) F dX8_take_92 fg_X8_75 (Nat.le_of_ble_eq_true rfl) rfl rfl ?_
                  refine jr_iload_n F dX8_take_95 rfl ?_
                  refine jr_iald F dX8_take_96 (Nat.le_of_ble_eq_true rfl) rfl (by omega) (fun q96 => ?_) (by omega) (by omega)
                  refine jr_ti (b := (m 22 i)) (by subst e76_2; rw [up_cell (by decide)]; exact ui.2) ?_
                  refine jr_icmp_le (tgt := 105) F dX8_take_97 (by decide) (fun c97 => ?_) (fun c97 => ?_) (by omega) (by omega)
                  · skip
                    refine jr_aload_n F dX8_take_105 rfl ?_
                    refine jr_getR (t := 22) F dX8_take_106 fg_X8_75 (Nat.le_of_ble_eq_true rfl) rfl rfl ?_
                    refine jr_iload_n F dX8_take_109 rfl ?_
                    refine jr_iald F dX8_take_110 (Nat.le_of_ble_eq_true rfl) rfl (by omega) (fun q110 => ?_) (by omega) (by omega)
                    refine jr_ti (b := (m 22 i)) (by subst e76_2; rw [up_cell (by decide)]; exact ui.2) ?_
                    refine jr_iastx F dX8_take_111 (Nat.le_of_ble_eq_true rfl) rfl (by omega) (fun w111_7 e111_7 => ?_) (by omega) (by omega) (by omega)
                    refine jr_iinc F dX8_take_112 rfl (Nat.le_of_ble_eq_true rfl) rfl ?_
                    refine jr_goto (tgt := 2) F dX8_take_115 (by decide) ?_
                    exact jr_sub (ih2 _ (i + 1) (by omega) (by omega) (by omega) (by rw [e111_7, e76_2]; exact tkR_y hu i0 c16 (by first | (rw [if_pos (by omega)]; done) | (rw [if_neg (by omega)])) (by first | (rw [if_pos (by omega)]; done) | (rw [if_neg (by omega)])))) ⟨rfl, rfl, rfl, trivial⟩
                  · skip
                    refine jr_iload F dX8_take_100 rfl ?_
                    refine jr_goto (tgt := 111) F dX8_take_102 (by decide) ?_
                    refine jr_iastx F dX8_take_111 (Nat.le_of_ble_eq_true rfl) rfl (by omega) (fun w111_8 e111_8 => ?_) (by omega) (by omega) (by omega)
                    refine jr_iinc F dX8_take_112 rfl (Nat.le_of_ble_eq_true rfl) rfl ?_
                    refine jr_goto (tgt := 2) F dX8_take_115 (by decide) ?_
                    exact jr_sub (ih2 _ (i + 1) (by omega) (by omega) (by omega) (by rw [e111_8, e76_2]; exact tkR_y hu i0 c16 (by first | (rw [if_pos (by omega)]; done) | (rw [if_neg (by omega)])) (by first | (rw [if_pos (by omega)]; done) | (rw [if_neg (by omega)])))) ⟨rfl, rfl, rfl, trivial⟩
  exact jr_sub (L2 _ _ 0 (Nat.lt_succ_self _) (by omega) (by omega) (tkR_0 w m e)) ⟨rfl, rfl, rfl, trivial⟩

