/-- alike in all that lasts -/
def sm (m u : Wd) : Prop := (∀ k : Nat, 1 ≤ k → k < 15 → u k = m k) ∧ u 0 0 = m 0 0 ∧ u 0 8 = m 0 8 ∧ u 0 11 = m 0 11 ∧ u 0 16 = m 0 16 ∧ u 0 18 = m 0 18
theorem sm_r (m : Wd) : sm m m := ⟨fun _ _ _ => rfl, rfl, rfl, rfl, rfl, rfl⟩
theorem sm_t {a b c : Wd} (h : sm a b) (g : sm b c) : sm a c := ⟨fun k x y => (g.1 k x y).trans (h.1 k x y), g.2.1.trans h.2.1, g.2.2.1.trans h.2.2.1, g.2.2.2.1.trans h.2.2.2.1, g.2.2.2.2.1.trans h.2.2.2.2.1, g.2.2.2.2.2.trans h.2.2.2.2.2⟩
theorem sm_RM {w m u : Wd} (h : sm m u) (g : RM w m) : RM w u := by
  obtain ⟨h1, h2, h3, h4, h5, h6⟩ := h
  obtain ⟨⟨a1, a2, a3, a4, a5⟩, b, c, d, e⟩ := g
  refine ⟨⟨h2.trans a1, h3.trans a2, h4.trans a3, h5.trans a4, h6.trans a5⟩, ?_, ?_, ?_, ?_⟩
  · unfold RMr; rw [h1 1 (by decide) (by decide), h1 2 (by decide) (by decide), h1 3 (by decide) (by decide), h1 4 (by decide) (by decide), h1 5 (by decide) (by decide), h1 6 (by decide) (by decide)]; exact b
  · unfold RMt; rw [h1 7 (by decide) (by decide), h1 8 (by decide) (by decide), h1 9 (by decide) (by decide), h1 10 (by decide) (by decide)]; exact c
  · unfold RMs; rw [h1 11 (by decide) (by decide), h1 12 (by decide) (by decide), h1 13 (by decide) (by decide)]; exact d
  · unfold RMw; rw [h1 14 (by decide) (by decide)]; exact e
theorem sm_rd (w m : Wd) : sm m (rdT w m) := ⟨fun k a _ => by unfold rdT; rw [up_cell (by omega), up_cell (by omega)], rfl, rfl, rfl, rfl, rfl⟩
noncomputable def cpM (w m : Wd) (t : Int) : Nat → Wd
  | 0 => m
  | n + 1 => up (cpM w m t n) 12 (60 * t + (n : Nat)) (pgl w (n : Nat))
theorem cpM_s {w m : Wd} {t n : Int} (h : 0 ≤ n) : cpM w m t (n + 1).toNat = up (cpM w m t n.toNat) 12 (60 * t + n) (pgl w n) := by rw [show (n + 1).toNat = n.toNat + 1 by omega, cpM, Int.toNat_of_nonneg h]
theorem cpM_c (w m : Wd) (t : Int) {k : Nat} (h : k ≠ 12) : ∀ n, cpM w m t n k = m k
  | 0 => rfl
  | n + 1 => by rw [cpM, up_cell h, cpM_c w m t h n]
noncomputable def ltM (w x : Wd) (s : Int) : Wd := up (up (up (cpM w x (6 * s + txn w s) (w 18 1).toNat) 13 (6 * s + txn w s) (w 18 1)) 11 s (txn w s + 1)) 0 11 0
noncomputable def texM (w m : Wd) (s : Int) : Wd := if s = 0 ∨ s = 1 then accW (texw w s) (ltM w (rdT w m) s) (rdT w m) else m
theorem texM_n {w m : Wd} {s : Int} (hs : s = 0 ∨ s = 1) (h : texw w s < 0) : texM w m s = rdT w m := by unfold texM; rw [if_pos hs, accW_n h]
theorem texM_y {w m : Wd} {s : Int} (hs : s = 0 ∨ s = 1) (h : 0 ≤ texw w s) : texM w m s = ltM w (rdT w m) s := by unfold texM; rw [if_pos hs, accW_y h]

set_option maxRecDepth 100000 in
set_option maxHeartbeats 4000000 in
theorem c_X8_text {B : Bs} {w m : Wd} {s : Int} (hM : RM w m) (h11 : 0 ≤ w 11 2 ∧ w 11 2 ≤ 6) (h14 : 0 ≤ w 14 2 ∧ w 14 2 ≤ 6) (hp : 0 ≤ w 18 1 ∧ w 18 1 ≤ 60) (hs : inR s) : Sp (GM B) 4 yX8_text cX8_text 4 (Option.some FieldType.int) [.ref (ga (GM B) (0)), iv (s)] m (pI (texM w m s) (texw w s)) := by
  refine Sp.of (by decide) (Nat.le_of_ble_eq_true rfl) (fun X F => ?_)
  have tR := txn_R h11 h14 s
  show Jw (GM B) X _ 0 [some (.ref (ga (GM B) (0))), some (iv (s))] [] m
  refine jr_iload_n F dX8_text_0 rfl ?_
  refine jr_sI F dX8_text_1 cs_X8_160 (c_X8_isSchool (by omega)) rfl (Nat.le_of_ble_eq_true rfl) (Nat.le_of_ble_eq_true rfl) rfl (Nat.le_of_ble_eq_true rfl) ?_
  refine jr_ifne_b (tgt := 10) F dX8_text_4 (by decide) (fun c4 => ?_) (fun c4 => ?_)
  · skip
    refine jr_aload_n F dX8_text_10 rfl ?_
    refine jr_vVx F dX8_text_11 cv_X8_157 (c_X8_readText hM (by omega)) (Nat.le_of_ble_eq_true rfl) rfl rfl rfl rfl (Nat.le_of_ble_eq_true rfl) (Nat.le_of_ble_eq_true rfl) rfl (Nat.le_of_ble_eq_true rfl) (fun w11 e11 => ?_)
    have hM11 : RM w w11 := by rw [e11]; exact sm_RM (sm_rd w m) hM
    refine jr_aload_n F dX8_text_14 rfl ?_
    refine jr_getZx F (bi (txw w)) dX8_text_15 fg_X8_153 (Nat.le_of_ble_eq_true rfl) rfl rfl (by subst e11; rfl) (fun q15 => ?_)
    refine jr_ifne_b (tgt := 24) F dX8_text_18 (by decide) (fun c18 => ?_) (fun c18 => ?_)
    · skip
      refine jr_aload_n F dX8_text_24 rfl ?_
      refine jr_getR (t := 11) F dX8_text_25 fg_X8_41 (Nat.le_of_ble_eq_true rfl) rfl rfl ?_
      refine jr_iload_n F dX8_text_28 rfl ?_
      refine jr_iald F dX8_text_29 (Nat.le_of_ble_eq_true rfl) rfl (by omega) (fun q29 => ?_) (by omega) (by omega)
      refine jr_ti (b := (txn w s)) (rmX hM11 c4) ?_
      refine jr_bipush F dX8_text_30 (by decide) ?_
      refine jr_icmp_ne (tgt := 38) F dX8_text_32 (by decide) (fun c32 => ?_) (fun c32 => ?_) (by omega) (by omega)
      · skip
        refine jr_bipush F dX8_text_38 (by decide) ?_
        refine jr_iload_n F dX8_text_40 rfl ?_
        refine jr_imul F dX8_text_41 ?_
        refine jr_aload_n F dX8_text_42 rfl ?_
        refine jr_getR (t := 11) F dX8_text_43 fg_X8_41 (Nat.le_of_ble_eq_true rfl) rfl rfl ?_
        refine jr_iload_n F dX8_text_46 rfl ?_
        refine jr_iald F dX8_text_47 (Nat.le_of_ble_eq_true rfl) rfl (by omega) (fun q47 => ?_) (by omega) (by omega)
        refine jr_ti (b := (txn w s)) (rmX hM11 c4) ?_
        refine jr_iadd F dX8_text_48 ?_
        refine jr_istore_n F dX8_text_49 (Nat.le_of_ble_eq_true rfl) rfl ?_
        refine jr_iconst F dX8_text_50 ?_
        refine jr_istore_n F dX8_text_51 (Nat.le_of_ble_eq_true rfl) rfl ?_
        have L52 : ∀ (fuel : Nat) (u : Wd) (i : Int), (w 18 1 - i).toNat < fuel → (0 ≤ i) → (i ≤ w 18 1) → (s = 0 ∨ s = 1) → (txw w) → (¬ 6 ≤ txn w s) → (u = cpM w (rdT w m) (6 * s + txn w s) i.toNat) → Jw (GM B) X (pI (texM w m s) (texw w s)) 52 [some (.ref (ga (GM B) 0)), some (iv s), some (iv (6 * s + txn w s)), some (iv i)] [] u := by
          intro fuel
          induction fuel with
          | zero => intro u i hfuel; exact absurd hfuel (Nat.not_lt_zero _)
          | succ fuel ih52 =>
              intro u i hfuel i0 i1 hs1 hx hn hu
              have h11 : RM w (rdT w m) := sm_RM (sm_rd w m) hM
              have u1 : u 0 11 = w 18 1 := by subst hu; rw [cpM_c w _ _ (by decide)]; exact rn11 h11
              have u10 : u 10 = rdT w m 10 := by subst hu; exact cpM_c w _ _ (by decide) _
              have u11 : u 11 = rdT w m 11 := by subst hu; exact cpM_c w _ _ (by decide) _
              refine jr_iload_n F dX8_text_52 rfl ?_
              refine jr_aload_n F dX8_text_53 rfl ?_
              refine jr_getIx F (w 18 1) dX8_text_54 fg_X8_140 (Nat.le_of_ble_eq_true rfl) rfl rfl u1 (fun q54 => ?_)
              refine jr_icmp_ge (tgt := 83) F dX8_text_57 (by decide) (fun c57 => ?_) (fun c57 => ?_) (by omega) (by omega)
              · skip
                obtain rfl : i = w 18 1 := by omega
                refine jr_aload_n F dX8_text_83 rfl ?_
                refine jr_getR (t := 13) F dX8_text_84 fg_X8_47 (Nat.le_of_ble_eq_true rfl) rfl rfl ?_
                refine jr_iload_n F dX8_text_87 rfl ?_
                refine jr_aload_n F dX8_text_88 rfl ?_
                refine jr_getIx F (w 18 1) dX8_text_89 fg_X8_140 (Nat.le_of_ble_eq_true rfl) rfl rfl u1 (fun q89 => ?_)
                refine jr_iastx F dX8_text_92 (Nat.le_of_ble_eq_true rfl) rfl (by omega) (fun w92 e92 => ?_) (by omega) (by omega) (by omega)
                refine jr_aload_n F dX8_text_93 rfl ?_
                refine jr_getR (t := 11) F dX8_text_94 fg_X8_41 (Nat.le_of_ble_eq_true rfl) rfl rfl ?_
                refine jr_iload_n F dX8_text_97 rfl ?_
                refine jr_dup2 F dX8_text_98 rfl rfl ?_
                refine jr_iald F dX8_text_99 (Nat.le_of_ble_eq_true rfl) rfl (by omega) (fun q99 => ?_) (by omega) (by omega)
                refine jr_ti (b := (txn w s)) (by subst e92; exact (show u 11 s = txn w s from by rw [u11]; exact rmX h11 hs1)) ?_
                refine jr_iconst F dX8_text_100 ?_
                refine jr_iadd F dX8_text_101 ?_
                refine jr_iastx F dX8_text_102 (Nat.le_of_ble_eq_true rfl) rfl (by omega) (fun w102 e102 => ?_) (by omega) (by omega) (by omega)
                refine jr_aload_n F dX8_text_103 rfl ?_
                refine jr_iconst F dX8_text_104 ?_
                refine jr_putIx F dX8_text_105 fp_X8_140 (Nat.le_of_ble_eq_true rfl) rfl rfl (by omega) (fun w105 e105 => ?_)
                refine jr_aload_n F dX8_text_108 rfl ?_
                refine jr_getR (t := 11) F dX8_text_109 fg_X8_41 (Nat.le_of_ble_eq_true rfl) rfl rfl ?_
                refine jr_iload_n F dX8_text_112 rfl ?_
                refine jr_iald F dX8_text_113 (Nat.le_of_ble_eq_true rfl) rfl (by omega) (fun q113 => ?_) (by omega) (by omega)
                refine jr_ti (b := (txn w s + 1)) (by subst e105; subst e102; subst e92; rw [up_cell (by decide)]; exact up_self _ _ _ _) ?_
                exact jr_iret F dX8_text_114 (pI_of (texw_c hs1 hx hn).symm (by rw [texM_y hs1 (by rw [texw_c hs1 hx hn]; omega)]; subst e105; subst e102; subst e92; subst hu; rfl))
              · skip
                refine jr_aload_n F dX8_text_60 rfl ?_
                refine jr_getR (t := 12) F dX8_text_61 fg_X8_44 (Nat.le_of_ble_eq_true rfl) rfl rfl ?_
                refine jr_bipush F dX8_text_64 (by decide) ?_
                refine jr_iload_n F dX8_text_66 rfl ?_
                refine jr_imul F dX8_text_67 ?_
                refine jr_iload_n F dX8_text_68 rfl ?_
                refine jr_iadd F dX8_text_69 ?_
                refine jr_aload_n F dX8_text_70 rfl ?_
                refine jr_getR (t := 10) F dX8_text_71 fg_X8_37 (Nat.le_of_ble_eq_true rfl) rfl rfl ?_
                refine jr_iload_n F dX8_text_74 rfl ?_
                refine jr_bald F dX8_text_75 (Nat.le_of_ble_eq_true rfl) rfl (by omega) (fun q75 => ?_) (by omega) (by omega)
                refine jr_ti (b := (pgl w i)) (by rw [u10]; exact rmP h11 (by omega) (by omega)) ?_
                have z75 : u 10 i = pgl w i := by rw [u10]; exact rmP h11 (by omega) (by omega)
                rw [z75] at q75
                refine jr_bastx F dX8_text_76 (Nat.le_of_ble_eq_true rfl) rfl (by omega) (fun w76 e76 => ?_) (by omega) (by omega) (by omega)
                refine jr_iinc F dX8_text_77 rfl (Nat.le_of_ble_eq_true rfl) rfl ?_
                refine jr_goto (tgt := 52) F dX8_text_80 (by decide) ?_
                exact jr_sub (ih52 _ (i + 1) (by omega) (by omega) (by omega) hs1 hx hn (by subst e76; subst hu; rw [cpM_s i0])) ⟨rfl, rfl, rfl, rfl, trivial⟩
        exact jr_sub (L52 _ _ 0 (Nat.lt_succ_self _) (by omega) (by omega) c4 c18 (by omega) (by rw [e11]; rfl)) ⟨rfl, rfl, rfl, rfl, trivial⟩
      · skip
        refine jr_bipush F dX8_text_35 (by decide) ?_
        exact jr_iret F dX8_text_37 (pI_of (texw_b c4 c18 (by omega)).symm (by rw [texM_n c4 (by rw [texw_b c4 c18 (by omega)]; omega)]; exact e11.symm))
    · skip
      refine jr_bipush F dX8_text_21 (by decide) ?_
      exact jr_iret F dX8_text_23 (pI_of (texw_a c4 c18).symm (by rw [texM_n c4 (by rw [texw_a c4 c18]; omega)]; exact e11.symm))
  · skip
    refine jr_bipush F dX8_text_7 (by decide) ?_
    exact jr_iret F dX8_text_9 (pI_of (by unfold texw; rw [if_neg c4]) (by unfold texM; rw [if_neg c4]))

