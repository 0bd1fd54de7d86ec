def pB (P : Prop) (R : Wd → Prop) : Option Value → Wd → Prop := fun v u => v = some (iv (bi P)) ∧ R u
theorem pB_of {w : Wd} {a : Int} {P : Prop} {R : Wd → Prop} (h : a = bi P) (hw : R w) : pB P R (some (iv a)) w := ⟨by rw [h], hw⟩
section JB
variable {G : Gc} {X : Xc} {own : String} {cc : ByteArray} {nL d : Nat} {ret : Option FieldType} {post : Option Value → Wd → Prop} {pc : Nat} {lv : List (Option Value)} {st rest : List Value} {w : Wd}
theorem jr_vB (F : Fx G X own cc nL d ret) {i k ci d' nL' n : Nat} {y : MethodName} {b : ByteArray} {ret' : Option FieldType} {fs : List Nat} {As : List Value} {q : vw_C} {P : Prop} {R : Wd → Prop} (hd : decode cc pc = .ok (.invokevirtual i, 3)) (L : Cv own i y b nL' ret' n)
    (hc : Sp G d' y b nL' ret' (.ref (ga G k) :: As) w (pB P R)) (hk : k < gn G) (hs : gS G k = .inr (ci, fs)) (hq : vwCl[ci]? = some q) (hqc : q.1 = y.cls) (hn : As.length = n) (hdd : d' + 1 ≤ d) (hml : nL' ≤ 21) (hst : st = As.reverse ++ .ref (ga G k) :: rest) (hcat : (rest.map fun v => v.category).sum ≤ 8)
    (kk : ∀ u : Wd, R u → Jw G X post (pc + 3) lv (iv (bi P) :: rest) u) : Jw G X post pc lv st w := jr_callV F hd L hc hk hs hq hqc hn hdd hml hst hcat (fun v u h => by obtain ⟨rfl, h⟩ := h; exact kk u h)
theorem jr_sB (F : Fx G X own cc nL d ret) {i d' nL' n : Nat} {y : MethodName} {b : ByteArray} {ret' : Option FieldType} {As : List Value} {P : Prop} {R : Wd → Prop} (hd : decode cc pc = .ok (.invokestatic i, 3)) (L : Cs own i y b nL' ret' n)
    (hc : Sp G d' y b nL' ret' As w (pB P R)) (hn : As.length = n) (hdd : d' + 1 ≤ d) (hml : nL' ≤ 21) (hst : st = As.reverse ++ rest) (hcat : (rest.map fun v => v.category).sum ≤ 8)
    (kk : ∀ u : Wd, R u → Jw G X post (pc + 3) lv (iv (bi P) :: rest) u) : Jw G X post pc lv st w := jr_callS F hd L hc hn hdd hml hst hcat (fun v u h => by obtain ⟨rfl, h⟩ := h; exact kk u h)
end JB
/-- a grid's cells as a matrix -/
def mat (w : Wd) (c : Nat) (a b : Int) : Int := w c (a * 11 + b)
theorem mat_up {w : Wd} {c : Nat} {a b v a' b' : Int} (b0 : 0 ≤ b) (b1 : b < 11) (c0 : 0 ≤ b') (c1 : b' < 11) : mat (up w c (a * 11 + b) v) c a' b' = if a' = a ∧ b' = b then v else mat w c a' b' := by
  unfold mat
  by_cases e : a' = a ∧ b' = b
  · obtain ⟨rfl, rfl⟩ := e
    rw [up_self, if_pos ⟨rfl, rfl⟩]
  · rw [if_neg e, up_ne (by omega)]
/-- how far a bound has been laid: rows ahead of a, and of row a the places ahead of b -/
def hin (w u : Wd) (c : Nat) (n f t m a b : Int) : Prop := (∀ k, k ≠ c → u k = w k) ∧ ∀ a' b' : Int, 0 ≤ a' → a' < n → 0 ≤ b' → b' < n → mat u c a' b' = if a' < a ∨ (a' = a ∧ b' < b) then hld (mat w c) f t m a' b' else mat w c a' b'
theorem hin_0 (w : Wd) (c : Nat) (n f t m : Int) : hin w w c n f t m 0 0 := ⟨fun _ _ => rfl, fun a' b' a0 _ b0 _ => by rw [if_neg (by omega)]⟩
theorem hin_row {w u : Wd} {c : Nat} {n f t m a b : Int} (h : hin w u c n f t m a b) (hb : n ≤ b) : hin w u c n f t m (a + 1) 0 := by
  refine ⟨h.1, fun a' b' a0 a1 b0 b1 => ?_⟩
  rw [h.2 a' b' a0 a1 b0 b1]
  by_cases e : a' < a ∨ (a' = a ∧ b' < b)
  · rw [if_pos e, if_pos (by omega)]
  · rw [if_neg e, if_neg (by omega)]
theorem hin_skip {w u : Wd} {c : Nat} {n f t m a : Int} (g : gok n (mat w c)) (f0 : 0 ≤ f) (f1 : f < n) (t0 : 0 ≤ t) (t1 : t < n) (h : hin w u c n f t m a 0) (hs : mat w c a t ≤ mat w c a f + m) : hin w u c n f t m (a + 1) 0 := by
  refine ⟨h.1, fun a' b' a0 a1 b0 b1 => ?_⟩
  rw [h.2 a' b' a0 a1 b0 b1]
  by_cases e : a' < a
  · rw [if_pos (by omega), if_pos (by omega)]
  · by_cases e2 : a' = a
    · subst e2
      rw [if_neg (by omega), if_pos (by omega)]
      have := g.2.1 a' t b' a0 a1 t0 t1 b0 b1
      unfold hld; omega
    · rw [if_neg (by omega), if_neg (by omega)]
theorem hin_rd {w u : Wd} {c : Nat} {n f t m a b a' b' : Int} (h : hin w u c n f t m a b) (a0 : 0 ≤ a') (a1 : a' < n) (b0 : 0 ≤ b') (b1 : b' < n) (e : ¬ (a' < a ∨ (a' = a ∧ b' < b))) : u c (a' * 11 + b') = mat w c a' b' := by
  have := h.2 a' b' a0 a1 b0 b1
  rw [if_neg e] at this
  exact this
theorem hin_rt {w u : Wd} {c : Nat} {n f t m a b b' : Int} (h : hin w u c n f t m a b) (t0 : 0 ≤ t) (t1 : t < n) (b0 : 0 ≤ b') (b1 : b' < n) (hm : 0 ≤ mat w c t f + m) : u c (t * 11 + b') = mat w c t b' := by
  have := h.2 t b' t0 t1 b0 b1
  by_cases e : t < a ∨ (t = a ∧ b' < b)
  · rw [if_pos e] at this
    have q : u c (t * 11 + b') = hld (mat w c) f t m t b' := this
    rw [q]; unfold hld; omega
  · rw [if_neg e] at this
    exact this
theorem hin_st {w u : Wd} {c : Nat} {n f t m a b : Int} (h : hin w u c n f t m a b) (hn : n ≤ 11) (b0 : 0 ≤ b) (b1 : b < n) (hs : mat w c a f + m + mat w c t b < mat w c a b) : hin w (up u c (a * 11 + b) (mat w c a f + m + mat w c t b)) c n f t m a (b + 1) := by
  refine ⟨fun k hk => by rw [up_cell hk]; exact h.1 k hk, fun a' b' a0 a1 c0 c1 => ?_⟩
  rw [mat_up b0 (by omega) c0 (by omega)]
  by_cases e : a' = a ∧ b' = b
  · obtain ⟨rfl, rfl⟩ := e
    rw [if_pos ⟨rfl, rfl⟩, if_pos (by omega)]
    unfold hld; omega
  · rw [if_neg e, h.2 a' b' a0 a1 c0 c1]
    by_cases e2 : a' < a ∨ (a' = a ∧ b' < b)
    · rw [if_pos e2, if_pos (by omega)]
    · rw [if_neg e2, if_neg (by omega)]
theorem hin_ns {w u : Wd} {c : Nat} {n f t m a b : Int} (h : hin w u c n f t m a b) (hs : mat w c a b ≤ mat w c a f + m + mat w c t b) : hin w u c n f t m a (b + 1) := by
  refine ⟨h.1, fun a' b' a0 a1 c0 c1 => ?_⟩
  rw [h.2 a' b' a0 a1 c0 c1]
  by_cases e : a' = a ∧ b' = b
  · obtain ⟨rfl, rfl⟩ := e
    rw [if_neg (by omega), if_pos (by omega)]
    unfold hld; omega
  · by_cases e2 : a' < a ∨ (a' = a ∧ b' < b)
    · rw [if_pos e2, if_pos (by omega)]
    · rw [if_neg e2, if_neg (by omega)]
def hR (w : Wd) (c : Nat) (n f t m : Int) (u : Wd) : Prop := (∀ k, k ≠ c → u k = w k) ∧ (-(mat w c t f) ≤ m → ∀ a b : Int, 0 ≤ a → a < n → 0 ≤ b → b < n → mat u c a b = hld (mat w c) f t m a b) ∧ (¬ -(mat w c t f) ≤ m → u = w)

set_option maxRecDepth 100000 in
set_option maxHeartbeats 4000000 in
theorem c_X0_most_21 {B : Bs} {w : Wd} {a b : Int} (h : inR (a * 11 + b)) : Sp (GX B) 1 yX0_most cX0_most 3 (Option.some FieldType.int) [.ref (ga (GX B) (21)), iv (a), iv (b)] w (pI w (rd w 22 121 (a * 11 + b))) := by
  refine Sp.of (by decide) (Nat.le_of_ble_eq_true rfl) (fun X F => ?_)
  show Jw (GX B) X _ 0 [some (.ref (ga (GX B) (21))), some (iv (a)), some (iv (b))] [] w
  refine jr_aload_n F dX0_most_0 rfl ?_
  refine jr_getR (t := 22) F dX0_most_1 fg_X0_11 (Nat.le_of_ble_eq_true rfl) rfl rfl ?_
  refine jr_iload_n F dX0_most_4 rfl ?_
  refine jr_bipush F dX0_most_5 (by decide) ?_
  refine jr_imul F dX0_most_7 ?_
  refine jr_iload_n F dX0_most_8 rfl ?_
  refine jr_iadd F dX0_most_9 ?_
  refine jr_nI F dX0_most_10 cn_X0_33 (c_X7_at (Nat.le_of_ble_eq_true rfl) rfl (by omega) (by omega)) rfl (Nat.le_of_ble_eq_true rfl) (Nat.le_of_ble_eq_true rfl) rfl (Nat.le_of_ble_eq_true rfl) ?_
  exact jr_iret F dX0_most_13 (pI_of (by first | rfl | omega) rfl)

set_option maxRecDepth 100000 in
set_option maxHeartbeats 4000000 in
theorem c_X0_hold_21 {B : Bs} {w : Wd} {f t m : Int} (hn : 1 ≤ w 21 1 ∧ w 21 1 ≤ 11) (f0 : 0 ≤ f) (f1 : f < w 21 1) (t0 : 0 ≤ t) (t1 : t < w 21 1) (hm : -100000 ≤ m ∧ m ≤ 100000) (hg : gok (w 21 1) (mat w 22)) : Sp (GX B) 0 yX0_hold cX0_hold 10 (Option.some FieldType.boolean) [.ref (ga (GX B) (21)), iv (f), iv (t), iv (m)] w (pB (-(mat w 22 t f) ≤ m) (hR w 22 (w 21 1) f t m)) := by
  refine Sp.of (by decide) (Nat.le_of_ble_eq_true rfl) (fun X F => ?_)
  show Jw (GX B) X _ 0 [some (.ref (ga (GX B) (21))), some (iv (f)), some (iv (t)), some (iv (m))] [] w
  have J20 : Jw (GX B) X (pB (-(mat w 22 t f) ≤ m) (hR w 22 (w 21 1) f t m)) 20 [some (.ref (ga (GX B) 21)), some (iv f), some (iv t), some (iv m), some (iv (w 21 1))] [] w := by
    refine jr_iload_n F dX0_hold_20 rfl ?_
    refine jr_if_lt (tgt := 40) F dX0_hold_21 (by decide) (fun c21 => ?_) (fun c21 => ?_) (by omega)
    · skip
      exfalso; omega
    · skip
      refine jr_iload_n F dX0_hold_24 rfl ?_
      refine jr_iload F dX0_hold_25 rfl ?_
      refine jr_icmp_ge (tgt := 40) F dX0_hold_27 (by decide) (fun c27 => ?_) (fun c27 => ?_) (by omega) (by omega)
      · skip
        exfalso; omega
      · skip
        refine jr_iload_n F dX0_hold_30 rfl ?_
        refine jr_if_lt (tgt := 40) F dX0_hold_31 (by decide) (fun c31 => ?_) (fun c31 => ?_) (by omega)
        · skip
          exfalso; omega
        · skip
          refine jr_iload_n F dX0_hold_34 rfl ?_
          refine jr_iload F dX0_hold_35 rfl ?_
          refine jr_icmp_lt (tgt := 42) F dX0_hold_37 (by decide) (fun c37 => ?_) (fun c37 => ?_) (by omega) (by omega)
          · skip
            refine jr_iload_n F dX0_hold_42 rfl ?_
            refine jr_aload_n F dX0_hold_43 rfl ?_
            refine jr_getR (t := 22) F dX0_hold_44 fg_X0_11 (Nat.le_of_ble_eq_true rfl) rfl rfl ?_
            refine jr_iload_n F dX0_hold_47 rfl ?_
            refine jr_bipush F dX0_hold_48 (by decide) ?_
            refine jr_imul F dX0_hold_50 ?_
            refine jr_iload_n F dX0_hold_51 rfl ?_
            refine jr_iadd F dX0_hold_52 ?_
            refine jr_iald F dX0_hold_53 (Nat.le_of_ble_eq_true rfl) rfl (by omega) (fun q53 => ?_) (by omega) (by omega)
            refine jr_ti (b := (mat w 22 f t)) rfl ?_
            have z1 := gok_R hg f0 f1 t0 t1
            refine jr_icmp_lt (tgt := 59) F dX0_hold_54 (by decide) (fun c54 => ?_) (fun c54 => ?_) (by omega) (by omega)
            · skip
              refine jr_iload_n F dX0_hold_59 rfl ?_
              refine jr_aload_n F dX0_hold_60 rfl ?_
              refine jr_getR (t := 22) F dX0_hold_61 fg_X0_11 (Nat.le_of_ble_eq_true rfl) rfl rfl ?_
              refine jr_iload_n F dX0_hold_64 rfl ?_
              refine jr_bipush F dX0_hold_65 (by decide) ?_
              refine jr_imul F dX0_hold_67 ?_
              refine jr_iload_n F dX0_hold_68 rfl ?_
              refine jr_iadd F dX0_hold_69 ?_
              refine jr_iald F dX0_hold_70 (Nat.le_of_ble_eq_true rfl) rfl (by omega) (fun q70 => ?_) (by omega) (by omega)
              refine jr_ti (b := (mat w 22 t f)) rfl ?_
              have z2 := gok_R hg t0 t1 f0 f1
              refine jr_ineg F dX0_hold_71 ?_
              refine jr_icmp_ge (tgt := 77) F dX0_hold_72 (by decide) (fun c72 => ?_) (fun c72 => ?_) (by omega) (by omega)
              · skip
                refine jr_iconst F dX0_hold_77 ?_
                refine jr_istore F dX0_hold_78 (Nat.le_of_ble_eq_true rfl) rfl ?_
                have L80 : ∀ (fuel : Nat) (u : Wd) (a : Int), (w 21 1 - a).toNat < fuel → (0 ≤ a) → (a ≤ w 21 1) → (hin w u 22 (w 21 1) f t m a 0) → Jw (GX B) X (pB (-(mat w 22 t f) ≤ m) (hR w 22 (w 21 1) f t m)) 80 [some (.ref (ga (GX B) 21)), some (iv f), some (iv t), some (iv m), some (iv (w 21 1)), some (iv a)] [] u := by
                  intro fuel
                  induction fuel with
                  | zero => intro u a hfuel; exact absurd hfuel (Nat.not_lt_zero _)
                  | succ fuel ih80 =>
                      intro u a hfuel a0 a1 hu
                      refine jr_iload F dX0_hold_80 rfl ?_
                      refine jr_iload F dX0_hold_82 rfl ?_
                      refine jr_icmp_ge (tgt := 190) F dX0_hold_84 (by decide) (fun c84 => ?_) (fun c84 => ?_) (by omega) (by omega)
                      · skip
                        refine jr_iconst F dX0_hold_190 ?_
                        exact jr_zret F dX0_hold_191 (pB_of (bi_t (by omega)).symm ⟨hu.1, fun _ a b a0 a1 b0 b1 => by rw [hu.2 a b a0 a1 b0 b1, if_pos (by omega)], fun q => absurd (show -(mat w 22 t f) ≤ m by omega) q⟩) (by omega)
                      · skip
                        refine jr_iload F dX0_hold_87 rfl ?_
                        refine jr_bipush F dX0_hold_89 (by decide) ?_
                        refine jr_imul F dX0_hold_91 ?_
                        refine jr_istore F dX0_hold_92 (Nat.le_of_ble_eq_true rfl) rfl ?_
                        refine jr_aload_n F dX0_hold_94 rfl ?_
                        refine jr_getR (t := 22) F dX0_hold_95 fg_X0_11 (Nat.le_of_ble_eq_true rfl) rfl rfl ?_
                        refine jr_iload F dX0_hold_98 rfl ?_
                        refine jr_iload_n F dX0_hold_100 rfl ?_
                        refine jr_iadd F dX0_hold_101 ?_
                        refine jr_iald F dX0_hold_102 (Nat.le_of_ble_eq_true rfl) rfl (by omega) (fun q102 => ?_) (by omega) (by omega)
                        refine jr_ti (b := (mat w 22 a f)) (hin_rd hu a0 (by omega) f0 f1 (by omega)) ?_
                        have z3 := gok_R hg a0 (by omega) f0 f1
                        refine jr_iload_n F dX0_hold_103 rfl ?_
                        refine jr_iadd F dX0_hold_104 ?_
                        refine jr_istore F dX0_hold_105 (Nat.le_of_ble_eq_true rfl) rfl ?_
                        refine jr_iload F dX0_hold_107 rfl ?_
                        refine jr_aload_n F dX0_hold_109 rfl ?_
                        refine jr_getR (t := 22) F dX0_hold_110 fg_X0_11 (Nat.le_of_ble_eq_true rfl) rfl rfl ?_
                        refine jr_iload F dX0_hold_113 rfl ?_
                        refine jr_iload_n F dX0_hold_115 rfl ?_
                        refine jr_iadd F dX0_hold_116 ?_
                        refine jr_iald F dX0_hold_117 (Nat.le_of_ble_eq_true rfl) rfl (by omega) (fun q117 => ?_) (by omega) (by omega)
                        refine jr_ti (b := (mat w 22 a t)) (hin_rd hu a0 (by omega) t0 t1 (by omega)) ?_
                        have z4 := gok_R hg a0 (by omega) t0 t1
                        refine jr_icmp_lt (tgt := 124) F dX0_hold_118 (by decide) (fun c118 => ?_) (fun c118 => ?_) (by omega) (by omega)
                        · skip
                          refine jr_iconst F dX0_hold_124 ?_
                          refine jr_istore F dX0_hold_125 (Nat.le_of_ble_eq_true rfl) rfl ?_
                          have L127 : ∀ (fuel : Nat) (x : Wd) (b : Int), (w 21 1 - b).toNat < fuel → (0 ≤ b) → (b ≤ w 21 1) → (hin w x 22 (w 21 1) f t m a b) → Jw (GX B) X (pB (-(mat w 22 t f) ≤ m) (hR w 22 (w 21 1) f t m)) 127 [some (.ref (ga (GX B) 21)), some (iv f), some (iv t), some (iv m), some (iv (w 21 1)), some (iv a), some (iv (a * 11)), some (iv (mat w 22 a f + m)), some (iv b)] [] x := by
                            intro fuel
                            induction fuel with
                            | zero => intro x b hfuel; exact absurd hfuel (Nat.not_lt_zero _)
                            | succ fuel ih127 =>
                                intro x b hfuel b0 b1 hx
                                refine jr_ok (fun hO => ?_)
                                refine jr_iload F dX0_hold_127 rfl ?_
                                refine jr_iload F dX0_hold_129 rfl ?_
                                refine jr_icmp_ge (tgt := 184) F dX0_hold_131 (by decide) (fun c131 => ?_) (fun c131 => ?_) (by omega) (by omega)
                                · skip
                                  refine jr_iinc F dX0_hold_184 rfl (Nat.le_of_ble_eq_true rfl) rfl ?_
                                  refine jr_goto (tgt := 80) F dX0_hold_187 (by decide) ?_
                                  exact jr_sub (ih80 _ (a + 1) (by omega) (by omega) (by omega) (hin_row hx (by omega))) ⟨rfl, rfl, rfl, rfl, rfl, rfl, trivial⟩
                                · skip
                                  refine jr_iload F dX0_hold_134 rfl ?_
                                  refine jr_aload_n F dX0_hold_136 rfl ?_
                                  refine jr_getR (t := 22) F dX0_hold_137 fg_X0_11 (Nat.le_of_ble_eq_true rfl) rfl rfl ?_
                                  refine jr_iload_n F dX0_hold_140 rfl ?_
                                  refine jr_bipush F dX0_hold_141 (by decide) ?_
                                  refine jr_imul F dX0_hold_143 ?_
                                  refine jr_iload F dX0_hold_144 rfl ?_
                                  refine jr_iadd F dX0_hold_146 ?_
                                  refine jr_iald F dX0_hold_147 (Nat.le_of_ble_eq_true rfl) rfl (by omega) (fun q147 => ?_) (by omega) (by omega)
                                  refine jr_ti (b := (mat w 22 t b)) (hin_rt hx t0 t1 b0 (by omega) (by omega)) ?_
                                  have z5 := gok_R hg t0 t1 b0 (by omega)
                                  refine jr_iadd F dX0_hold_148 ?_
                                  refine jr_istore F dX0_hold_149 (Nat.le_of_ble_eq_true rfl) rfl ?_
                                  refine jr_iload F dX0_hold_151 rfl ?_
                                  refine jr_aload_n F dX0_hold_153 rfl ?_
                                  refine jr_getR (t := 22) F dX0_hold_154 fg_X0_11 (Nat.le_of_ble_eq_true rfl) rfl rfl ?_
                                  refine jr_iload F dX0_hold_157 rfl ?_
                                  refine jr_iload F dX0_hold_159 rfl ?_
                                  refine jr_iadd F dX0_hold_161 ?_
                                  refine jr_iald F dX0_hold_162 (Nat.le_of_ble_eq_true rfl) rfl (by omega) (fun q162 => ?_) (by omega) (by omega)
                                  refine jr_ti (b := (mat w 22 a b)) (hin_rd hx a0 (by omega) b0 (by omega) (by omega)) ?_
                                  have z6 := gok_R hg a0 (by omega) b0 (by omega)
                                  refine jr_icmp_ge (tgt := 178) F dX0_hold_163 (by decide) (fun c163 => ?_) (fun c163 => ?_) (by omega) (by omega)
                                  · skip
                                    refine jr_iinc F dX0_hold_178 rfl (Nat.le_of_ble_eq_true rfl) rfl ?_
                                    refine jr_goto (tgt := 127) F dX0_hold_181 (by decide) ?_
                                    exact jr_sub (ih127 _ (b + 1) (by omega) (by omega) (by omega) (hin_ns hx (by omega))) ⟨rfl, rfl, rfl, rfl, rfl, rfl, rfl, rfl, rfl, trivial⟩
                                  · skip
                                    refine jr_aload_n F dX0_hold_166 rfl ?_
                                    refine jr_getR (t := 22) F dX0_hold_167 fg_X0_11 (Nat.le_of_ble_eq_true rfl) rfl rfl ?_
                                    refine jr_iload F dX0_hold_170 rfl ?_
                                    refine jr_iload F dX0_hold_172 rfl ?_
                                    refine jr_iadd F dX0_hold_174 ?_
                                    refine jr_iload F dX0_hold_175 rfl ?_
                                    refine jr_iastx F dX0_hold_177 (Nat.le_of_ble_eq_true rfl) rfl (by omega) (fun w177 e177 => ?_) (by omega) (by omega) (by omega)
                                    refine jr_iinc F dX0_hold_178 rfl (Nat.le_of_ble_eq_true rfl) rfl ?_
                                    refine jr_goto (tgt := 127) F dX0_hold_181 (by decide) ?_
                                    exact jr_sub (ih127 _ (b + 1) (by omega) (by omega) (by omega) (by subst e177; exact hin_st hx (by omega) b0 (by omega) (by omega))) ⟨rfl, rfl, rfl, rfl, rfl, rfl, rfl, rfl, rfl, trivial⟩
                          exact jr_sub (L127 _ _ 0 (Nat.lt_succ_self _) (by omega) (by omega) hu) ⟨rfl, rfl, rfl, rfl, rfl, rfl, rfl, rfl, rfl, trivial⟩
                        · skip
                          refine jr_goto (tgt := 184) F dX0_hold_121 (by decide) ?_
                          refine jr_iinc F dX0_hold_184 rfl (Nat.le_of_ble_eq_true rfl) rfl ?_
                          refine jr_goto (tgt := 80) F dX0_hold_187 (by decide) ?_
                          exact jr_sub (ih80 _ (a + 1) (by omega) (by omega) (by omega) (hin_skip hg f0 f1 t0 t1 hu (by omega))) ⟨rfl, rfl, rfl, rfl, rfl, rfl, trivial⟩
                exact jr_sub (L80 _ _ 0 (Nat.lt_succ_self _) (by omega) (by omega) (hin_0 _ _ _ _ _ _)) ⟨rfl, rfl, rfl, rfl, rfl, rfl, trivial⟩
              · skip
                refine jr_iconst F dX0_hold_75 ?_
                exact jr_zret F dX0_hold_76 (pB_of (bi_f (by omega)).symm ⟨fun _ _ => rfl, fun q => absurd q (by omega), fun _ => rfl⟩) (by omega)
            · skip
              refine jr_iconst F dX0_hold_57 ?_
              exact jr_zret F dX0_hold_58 (pB_of (bi_t (by have z := hg.2.1 t f t t0 t1 f0 f1 t0 t1; have z2 := hg.1 t t0 t1; omega)).symm ⟨fun _ _ => rfl, fun _ a b a0 a1 b0 b1 => by have z := hg.2.1 a f b a0 a1 f0 f1 b0 b1; have z3 := hg.2.1 f t b f0 f1 t0 t1 b0 b1; unfold hld; omega, fun q => absurd (show -(mat w 22 t f) ≤ m by have z := hg.2.1 t f t t0 t1 f0 f1 t0 t1; have z2 := hg.1 t t0 t1; omega) q⟩) (by omega)
          · skip
            exfalso; omega
  refine jr_aload_n F dX0_hold_0 rfl ?_
  refine jr_getIx F (w 21 1) dX0_hold_1 fg_X0_15 (Nat.le_of_ble_eq_true rfl) rfl rfl rfl (fun q1 => ?_)
  refine jr_bipush F dX0_hold_4 (by decide) ?_
  refine jr_icmp_ge (tgt := 16) F dX0_hold_6 (by decide) (fun c6 => ?_) (fun c6 => ?_) (by omega) (by omega)
  · skip
    refine jr_bipush F dX0_hold_16 (by decide) ?_
    refine jr_ti (b := w 21 1) (by omega) ?_
    refine jr_istore F dX0_hold_18 (Nat.le_of_ble_eq_true rfl) rfl ?_
    exact jr_sub J20 ⟨rfl, rfl, rfl, rfl, rfl, trivial⟩
  · skip
    refine jr_aload_n F dX0_hold_9 rfl ?_
    refine jr_getIx F (w 21 1) dX0_hold_10 fg_X0_15 (Nat.le_of_ble_eq_true rfl) rfl rfl rfl (fun q10 => ?_)
    refine jr_goto (tgt := 18) F dX0_hold_13 (by decide) ?_
    refine jr_istore F dX0_hold_18 (Nat.le_of_ble_eq_true rfl) rfl ?_
    exact jr_sub J20 ⟨rfl, rfl, rfl, rfl, rfl, trivial⟩

set_option maxRecDepth 100000 in
set_option maxHeartbeats 4000000 in
theorem c_X0_most_23 {B : Bs} {w : Wd} {a b : Int} (h : inR (a * 11 + b)) : Sp (GX B) 1 yX0_most cX0_most 3 (Option.some FieldType.int) [.ref (ga (GX B) (23)), iv (a), iv (b)] w (pI w (rd w 24 121 (a * 11 + b))) := by
  refine Sp.of (by decide) (Nat.le_of_ble_eq_true rfl) (fun X F => ?_)
  show Jw (GX B) X _ 0 [some (.ref (ga (GX B) (23))), some (iv (a)), some (iv (b))] [] w
  refine jr_aload_n F dX0_most_0 rfl ?_
  refine jr_getR (t := 24) F dX0_most_1 fg_X0_11 (Nat.le_of_ble_eq_true rfl) rfl rfl ?_
  refine jr_iload_n F dX0_most_4 rfl ?_
  refine jr_bipush F dX0_most_5 (by decide) ?_
  refine jr_imul F dX0_most_7 ?_
  refine jr_iload_n F dX0_most_8 rfl ?_
  refine jr_iadd F dX0_most_9 ?_
  refine jr_nI F dX0_most_10 cn_X0_33 (c_X7_at (Nat.le_of_ble_eq_true rfl) rfl (by omega) (by omega)) rfl (Nat.le_of_ble_eq_true rfl) (Nat.le_of_ble_eq_true rfl) rfl (Nat.le_of_ble_eq_true rfl) ?_
  exact jr_iret F dX0_most_13 (pI_of (by first | rfl | omega) rfl)

set_option maxRecDepth 100000 in
set_option maxHeartbeats 4000000 in
theorem c_X0_hold_23 {B : Bs} {w : Wd} {f t m : Int} (hn : 1 ≤ w 23 1 ∧ w 23 1 ≤ 11) (f0 : 0 ≤ f) (f1 : f < w 23 1) (t0 : 0 ≤ t) (t1 : t < w 23 1) (hm : -100000 ≤ m ∧ m ≤ 100000) (hg : gok (w 23 1) (mat w 24)) : Sp (GX B) 0 yX0_hold cX0_hold 10 (Option.some FieldType.boolean) [.ref (ga (GX B) (23)), iv (f), iv (t), iv (m)] w (pB (-(mat w 24 t f) ≤ m) (hR w 24 (w 23 1) f t m)) := by
  refine Sp.of (by decide) (Nat.le_of_ble_eq_true rfl) (fun X F => ?_)
  show Jw (GX B) X _ 0 [some (.ref (ga (GX B) (23))), some (iv (f)), some (iv (t)), some (iv (m))] [] w
  have J20 : Jw (GX B) X (pB (-(mat w 24 t f) ≤ m) (hR w 24 (w 23 1) f t m)) 20 [some (.ref (ga (GX B) 23)), some (iv f), some (iv t), some (iv m), some (iv (w 23 1))] [] w := by
    refine jr_iload_n F dX0_hold_20 rfl ?_
    refine jr_if_lt (tgt := 40) F dX0_hold_21 (by decide) (fun c21 => ?_) (fun c21 => ?_) (by omega)
    · skip
      exfalso; omega
    · skip
      refine jr_iload_n F dX0_hold_24 rfl ?_
      refine jr_iload F dX0_hold_25 rfl ?_
      refine jr_icmp_ge (tgt := 40) F dX0_hold_27 (by decide) (fun c27 => ?_) (fun c27 => ?_) (by omega) (by omega)
      · skip
        exfalso; omega
      · skip
        refine jr_iload_n F dX0_hold_30 rfl ?_
        refine jr_if_lt (tgt := 40) F dX0_hold_31 (by decide) (fun c31 => ?_) (fun c31 => ?_) (by omega)
        · skip
          exfalso; omega
        · skip
          refine jr_iload_n F dX0_hold_34 rfl ?_
          refine jr_iload F dX0_hold_35 rfl ?_
          refine jr_icmp_lt (tgt := 42) F dX0_hold_37 (by decide) (fun c37 => ?_) (fun c37 => ?_) (by omega) (by omega)
          · skip
            refine jr_iload_n F dX0_hold_42 rfl ?_
            refine jr_aload_n F dX0_hold_43 rfl ?_
            refine jr_getR (t := 24) F dX0_hold_44 fg_X0_11 (Nat.le_of_ble_eq_true rfl) rfl rfl ?_
            refine jr_iload_n F dX0_hold_47 rfl ?_
            refine jr_bipush F dX0_hold_48 (by decide) ?_
            refine jr_imul F dX0_hold_50 ?_
            refine jr_iload_n F dX0_hold_51 rfl ?_
            refine jr_iadd F dX0_hold_52 ?_
            refine jr_iald F dX0_hold_53 (Nat.le_of_ble_eq_true rfl) rfl (by omega) (fun q53 => ?_) (by omega) (by omega)
            refine jr_ti (b := (mat w 24 f t)) rfl ?_
            have z1 := gok_R hg f0 f1 t0 t1
            refine jr_icmp_lt (tgt := 59) F dX0_hold_54 (by decide) (fun c54 => ?_) (fun c54 => ?_) (by omega) (by omega)
            · skip
              refine jr_iload_n F dX0_hold_59 rfl ?_
              refine jr_aload_n F dX0_hold_60 rfl ?_
              refine jr_getR (t := 24) F dX0_hold_61 fg_X0_11 (Nat.le_of_ble_eq_true rfl) rfl rfl ?_
              refine jr_iload_n F dX0_hold_64 rfl ?_
              refine jr_bipush F dX0_hold_65 (by decide) ?_
              refine jr_imul F dX0_hold_67 ?_
              refine jr_iload_n F dX0_hold_68 rfl ?_
              refine jr_iadd F dX0_hold_69 ?_
              refine jr_iald F dX0_hold_70 (Nat.le_of_ble_eq_true rfl) rfl (by omega) (fun q70 => ?_) (by omega) (by omega)
              refine jr_ti (b := (mat w 24 t f)) rfl ?_
              have z2 := gok_R hg t0 t1 f0 f1
              refine jr_ineg F dX0_hold_71 ?_
              refine jr_icmp_ge (tgt := 77) F dX0_hold_72 (by decide) (fun c72 => ?_) (fun c72 => ?_) (by omega) (by omega)
              · skip
                refine jr_iconst F dX0_hold_77 ?_
                refine jr_istore F dX0_hold_78 (Nat.le_of_ble_eq_true rfl) rfl ?_
                have L80 : ∀ (fuel : Nat) (u : Wd) (a : Int), (w 23 1 - a).toNat < fuel → (0 ≤ a) → (a ≤ w 23 1) → (hin w u 24 (w 23 1) f t m a 0) → Jw (GX B) X (pB (-(mat w 24 t f) ≤ m) (hR w 24 (w 23 1) f t m)) 80 [some (.ref (ga (GX B) 23)), some (iv f), some (iv t), some (iv m), some (iv (w 23 1)), some (iv a)] [] u := by
                  intro fuel
                  induction fuel with
                  | zero => intro u a hfuel; exact absurd hfuel (Nat.not_lt_zero _)
                  | succ fuel ih80 =>
                      intro u a hfuel a0 a1 hu
                      refine jr_iload F dX0_hold_80 rfl ?_
                      refine jr_iload F dX0_hold_82 rfl ?_
                      refine jr_icmp_ge (tgt := 190) F dX0_hold_84 (by decide) (fun c84 => ?_) (fun c84 => ?_) (by omega) (by omega)
                      · skip
                        refine jr_iconst F dX0_hold_190 ?_
                        exact jr_zret F dX0_hold_191 (pB_of (bi_t (by omega)).symm ⟨hu.1, fun _ a b a0 a1 b0 b1 => by rw [hu.2 a b a0 a1 b0 b1, if_pos (by omega)], fun q => absurd (show -(mat w 24 t f) ≤ m by omega) q⟩) (by omega)
                      · skip
                        refine jr_iload F dX0_hold_87 rfl ?_
                        refine jr_bipush F dX0_hold_89 (by decide) ?_
                        refine jr_imul F dX0_hold_91 ?_
                        refine jr_istore F dX0_hold_92 (Nat.le_of_ble_eq_true rfl) rfl ?_
                        refine jr_aload_n F dX0_hold_94 rfl ?_
                        refine jr_getR (t := 24) F dX0_hold_95 fg_X0_11 (Nat.le_of_ble_eq_true rfl) rfl rfl ?_
                        refine jr_iload F dX0_hold_98 rfl ?_
                        refine jr_iload_n F dX0_hold_100 rfl ?_
                        refine jr_iadd F dX0_hold_101 ?_
                        refine jr_iald F dX0_hold_102 (Nat.le_of_ble_eq_true rfl) rfl (by omega) (fun q102 => ?_) (by omega) (by omega)
                        refine jr_ti (b := (mat w 24 a f)) (hin_rd hu a0 (by omega) f0 f1 (by omega)) ?_
                        have z3 := gok_R hg a0 (by omega) f0 f1
                        refine jr_iload_n F dX0_hold_103 rfl ?_
                        refine jr_iadd F dX0_hold_104 ?_
                        refine jr_istore F dX0_hold_105 (Nat.le_of_ble_eq_true rfl) rfl ?_
                        refine jr_iload F dX0_hold_107 rfl ?_
                        refine jr_aload_n F dX0_hold_109 rfl ?_
                        refine jr_getR (t := 24) F dX0_hold_110 fg_X0_11 (Nat.le_of_ble_eq_true rfl) rfl rfl ?_
                        refine jr_iload F dX0_hold_113 rfl ?_
                        refine jr_iload_n F dX0_hold_115 rfl ?_
                        refine jr_iadd F dX0_hold_116 ?_
                        refine jr_iald F dX0_hold_117 (Nat.le_of_ble_eq_true rfl) rfl (by omega) (fun q117 => ?_) (by omega) (by omega)
                        refine jr_ti (b := (mat w 24 a t)) (hin_rd hu a0 (by omega) t0 t1 (by omega)) ?_
                        have z4 := gok_R hg a0 (by omega) t0 t1
                        refine jr_icmp_lt (tgt := 124) F dX0_hold_118 (by decide) (fun c118 => ?_) (fun c118 => ?_) (by omega) (by omega)
                        · skip
                          refine jr_iconst F dX0_hold_124 ?_
                          refine jr_istore F dX0_hold_125 (Nat.le_of_ble_eq_true rfl) rfl ?_
                          have L127 : ∀ (fuel : Nat) (x : Wd) (b : Int), (w 23 1 - b).toNat < fuel → (0 ≤ b) → (b ≤ w 23 1) → (hin w x 24 (w 23 1) f t m a b) → Jw (GX B) X (pB (-(mat w 24 t f) ≤ m) (hR w 24 (w 23 1) f t m)) 127 [some (.ref (ga (GX B) 23)), some (iv f), some (iv t), some (iv m), some (iv (w 23 1)), some (iv a), some (iv (a * 11)), some (iv (mat w 24 a f + m)), some (iv b)] [] x := by
                            intro fuel
                            induction fuel with
                            | zero => intro x b hfuel; exact absurd hfuel (Nat.not_lt_zero _)
                            | succ fuel ih127 =>
                                intro x b hfuel b0 b1 hx
                                refine jr_ok (fun hO => ?_)
                                refine jr_iload F dX0_hold_127 rfl ?_
                                refine jr_iload F dX0_hold_129 rfl ?_
                                refine jr_icmp_ge (tgt := 184) F dX0_hold_131 (by decide) (fun c131 => ?_) (fun c131 => ?_) (by omega) (by omega)
                                · skip
                                  refine jr_iinc F dX0_hold_184 rfl (Nat.le_of_ble_eq_true rfl) rfl ?_
                                  refine jr_goto (tgt := 80) F dX0_hold_187 (by decide) ?_
                                  exact jr_sub (ih80 _ (a + 1) (by omega) (by omega) (by omega) (hin_row hx (by omega))) ⟨rfl, rfl, rfl, rfl, rfl, rfl, trivial⟩
                                · skip
                                  refine jr_iload F dX0_hold_134 rfl ?_
                                  refine jr_aload_n F dX0_hold_136 rfl ?_
                                  refine jr_getR (t := 24) F dX0_hold_137 fg_X0_11 (Nat.le_of_ble_eq_true rfl) rfl rfl ?_
                                  refine jr_iload_n F dX0_hold_140 rfl ?_
                                  refine jr_bipush F dX0_hold_141 (by decide) ?_
                                  refine jr_imul F dX0_hold_143 ?_
                                  refine jr_iload F dX0_hold_144 rfl ?_
                                  refine jr_iadd F dX0_hold_146 ?_
                                  refine jr_iald F dX0_hold_147 (Nat.le_of_ble_eq_true rfl) rfl (by omega) (fun q147 => ?_) (by omega) (by omega)
                                  refine jr_ti (b := (mat w 24 t b)) (hin_rt hx t0 t1 b0 (by omega) (by omega)) ?_
                                  have z5 := gok_R hg t0 t1 b0 (by omega)
                                  refine jr_iadd F dX0_hold_148 ?_
                                  refine jr_istore F dX0_hold_149 (Nat.le_of_ble_eq_true rfl) rfl ?_
                                  refine jr_iload F dX0_hold_151 rfl ?_
                                  refine jr_aload_n F dX0_hold_153 rfl ?_
                                  refine jr_getR (t := 24) F dX0_hold_154 fg_X0_11 (Nat.le_of_ble_eq_true rfl) rfl rfl ?_
                                  refine jr_iload F dX0_hold_157 rfl ?_
                                  refine jr_iload F dX0_hold_159 rfl ?_
                                  refine jr_iadd F dX0_hold_161 ?_
                                  refine jr_iald F dX0_hold_162 (Nat.le_of_ble_eq_true rfl) rfl (by omega) (fun q162 => ?_) (by omega) (by omega)
                                  refine jr_ti (b := (mat w 24 a b)) (hin_rd hx a0 (by omega) b0 (by omega) (by omega)) ?_
                                  have z6 := gok_R hg a0 (by omega) b0 (by omega)
                                  refine jr_icmp_ge (tgt := 178) F dX0_hold_163 (by decide) (fun c163 => ?_) (fun c163 => ?_) (by omega) (by omega)
                                  · skip
                                    refine jr_iinc F dX0_hold_178 rfl (Nat.le_of_ble_eq_true rfl) rfl ?_
                                    refine jr_goto (tgt := 127) F dX0_hold_181 (by decide) ?_
                                    exact jr_sub (ih127 _ (b + 1) (by omega) (by omega) (by omega) (hin_ns hx (by omega))) ⟨rfl, rfl, rfl, rfl, rfl, rfl, rfl, rfl, rfl, trivial⟩
                                  · skip
                                    refine jr_aload_n F dX0_hold_166 rfl ?_
                                    refine jr_getR (t := 24) F dX0_hold_167 fg_X0_11 (Nat.le_of_ble_eq_true rfl) rfl rfl ?_
                                    refine jr_iload F dX0_hold_170 rfl ?_
                                    refine jr_iload F dX0_hold_172 rfl ?_
                                    refine jr_iadd F dX0_hold_174 ?_
                                    refine jr_iload F dX0_hold_175 rfl ?_
                                    refine jr_iastx F dX0_hold_177 (Nat.le_of_ble_eq_true rfl) rfl (by omega) (fun w177 e177 => ?_) (by omega) (by omega) (by omega)
                                    refine jr_iinc F dX0_hold_178 rfl (Nat.le_of_ble_eq_true rfl) rfl ?_
                                    refine jr_goto (tgt := 127) F dX0_hold_181 (by decide) ?_
                                    exact jr_sub (ih127 _ (b + 1) (by omega) (by omega) (by omega) (by subst e177; exact hin_st hx (by omega) b0 (by omega) (by omega))) ⟨rfl, rfl, rfl, rfl, rfl, rfl, rfl, rfl, rfl, trivial⟩
                          exact jr_sub (L127 _ _ 0 (Nat.lt_succ_self _) (by omega) (by omega) hu) ⟨rfl, rfl, rfl, rfl, rfl, rfl, rfl, rfl, rfl, trivial⟩
                        · skip
                          refine jr_goto (tgt := 184) F dX0_hold_121 (by decide) ?_
                          refine jr_iinc F dX0_hold_184 rfl (Nat.le_of_ble_eq_true rfl) rfl ?_
                          refine jr_goto (tgt := 80) F dX0_hold_187 (by decide) ?_
                          exact jr_sub (ih80 _ (a + 1) (by omega) (by omega) (by omega) (hin_skip hg f0 f1 t0 t1 hu (by omega))) ⟨rfl, rfl, rfl, rfl, rfl, rfl, trivial⟩
                exact jr_sub (L80 _ _ 0 (Nat.lt_succ_self _) (by omega) (by omega) (hin_0 _ _ _ _ _ _)) ⟨rfl, rfl, rfl, rfl, rfl, rfl, trivial⟩
              · skip
                refine jr_iconst F dX0_hold_75 ?_
                exact jr_zret F dX0_hold_76 (pB_of (bi_f (by omega)).symm ⟨fun _ _ => rfl, fun q => absurd q (by omega), fun _ => rfl⟩) (by omega)
            · skip
              refine jr_iconst F dX0_hold_57 ?_
              exact jr_zret F dX0_hold_58 (pB_of (bi_t (by have z := hg.2.1 t f t t0 t1 f0 f1 t0 t1; have z2 := hg.1 t t0 t1; omega)).symm ⟨fun _ _ => rfl, fun _ a b a0 a1 b0 b1 => by have z := hg.2.1 a f b a0 a1 f0 f1 b0 b1; have z3 := hg.2.1 f t b f0 f1 t0 t1 b0 b1; unfold hld; omega, fun q => absurd (show -(mat w 24 t f) ≤ m by have z := hg.2.1 t f t t0 t1 f0 f1 t0 t1; have z2 := hg.1 t t0 t1; omega) q⟩) (by omega)
          · skip
            exfalso; omega
  refine jr_aload_n F dX0_hold_0 rfl ?_
  refine jr_getIx F (w 23 1) dX0_hold_1 fg_X0_15 (Nat.le_of_ble_eq_true rfl) rfl rfl rfl (fun q1 => ?_)
  refine jr_bipush F dX0_hold_4 (by decide) ?_
  refine jr_icmp_ge (tgt := 16) F dX0_hold_6 (by decide) (fun c6 => ?_) (fun c6 => ?_) (by omega) (by omega)
  · skip
    refine jr_bipush F dX0_hold_16 (by decide) ?_
    refine jr_ti (b := w 23 1) (by omega) ?_
    refine jr_istore F dX0_hold_18 (Nat.le_of_ble_eq_true rfl) rfl ?_
    exact jr_sub J20 ⟨rfl, rfl, rfl, rfl, rfl, trivial⟩
  · skip
    refine jr_aload_n F dX0_hold_9 rfl ?_
    refine jr_getIx F (w 23 1) dX0_hold_10 fg_X0_15 (Nat.le_of_ble_eq_true rfl) rfl rfl rfl (fun q10 => ?_)
    refine jr_goto (tgt := 18) F dX0_hold_13 (by decide) ?_
    refine jr_istore F dX0_hold_18 (Nat.le_of_ble_eq_true rfl) rfl ?_
    exact jr_sub J20 ⟨rfl, rfl, rfl, rfl, rfl, trivial⟩

set_option maxRecDepth 100000 in
set_option maxHeartbeats 4000000 in
theorem c_X0_most_25 {B : Bs} {w : Wd} {a b : Int} (h : inR (a * 11 + b)) : Sp (GX B) 1 yX0_most cX0_most 3 (Option.some FieldType.int) [.ref (ga (GX B) (25)), iv (a), iv (b)] w (pI w (rd w 26 121 (a * 11 + b))) := by
  refine Sp.of (by decide) (Nat.le_of_ble_eq_true rfl) (fun X F => ?_)
  show Jw (GX B) X _ 0 [some (.ref (ga (GX B) (25))), some (iv (a)), some (iv (b))] [] w
  refine jr_aload_n F dX0_most_0 rfl ?_
  refine jr_getR (t := 26) F dX0_most_1 fg_X0_11 (Nat.le_of_ble_eq_true rfl) rfl rfl ?_
  refine jr_iload_n F dX0_most_4 rfl ?_
  refine jr_bipush F dX0_most_5 (by decide) ?_
  refine jr_imul F dX0_most_7 ?_
  refine jr_iload_n F dX0_most_8 rfl ?_
  refine jr_iadd F dX0_most_9 ?_
  refine jr_nI F dX0_most_10 cn_X0_33 (c_X7_at (Nat.le_of_ble_eq_true rfl) rfl (by omega) (by omega)) rfl (Nat.le_of_ble_eq_true rfl) (Nat.le_of_ble_eq_true rfl) rfl (Nat.le_of_ble_eq_true rfl) ?_
  exact jr_iret F dX0_most_13 (pI_of (by first | rfl | omega) rfl)

set_option maxRecDepth 100000 in
set_option maxHeartbeats 4000000 in
theorem c_X0_hold_25 {B : Bs} {w : Wd} {f t m : Int} (hn : 1 ≤ w 25 1 ∧ w 25 1 ≤ 11) (f0 : 0 ≤ f) (f1 : f < w 25 1) (t0 : 0 ≤ t) (t1 : t < w 25 1) (hm : -100000 ≤ m ∧ m ≤ 100000) (hg : gok (w 25 1) (mat w 26)) : Sp (GX B) 0 yX0_hold cX0_hold 10 (Option.some FieldType.boolean) [.ref (ga (GX B) (25)), iv (f), iv (t), iv (m)] w (pB (-(mat w 26 t f) ≤ m) (hR w 26 (w 25 1) f t m)) := by
  refine Sp.of (by decide) (Nat.le_of_ble_eq_true rfl) (fun X F => ?_)
  show Jw (GX B) X _ 0 [some (.ref (ga (GX B) (25))), some (iv (f)), some (iv (t)), some (iv (m))] [] w
  have J20 : Jw (GX B) X (pB (-(mat w 26 t f) ≤ m) (hR w 26 (w 25 1) f t m)) 20 [some (.ref (ga (GX B) 25)), some (iv f), some (iv t), some (iv m), some (iv (w 25 1))] [] w := by
    refine jr_iload_n F dX0_hold_20 rfl ?_
    refine jr_if_lt (tgt := 40) F dX0_hold_21 (by decide) (fun c21 => ?_) (fun c21 => ?_) (by omega)
    · skip
      exfalso; omega
    · skip
      refine jr_iload_n F dX0_hold_24 rfl ?_
      refine jr_iload F dX0_hold_25 rfl ?_
      refine jr_icmp_ge (tgt := 40) F dX0_hold_27 (by decide) (fun c27 => ?_) (fun c27 => ?_) (by omega) (by omega)
      · skip
        exfalso; omega
      · skip
        refine jr_iload_n F dX0_hold_30 rfl ?_
        refine jr_if_lt (tgt := 40) F dX0_hold_31 (by decide) (fun c31 => ?_) (fun c31 => ?_) (by omega)
        · skip
          exfalso; omega
        · skip
          refine jr_iload_n F dX0_hold_34 rfl ?_
          refine jr_iload F dX0_hold_35 rfl ?_
          refine jr_icmp_lt (tgt := 42) F dX0_hold_37 (by decide) (fun c37 => ?_) (fun c37 => ?_) (by omega) (by omega)
          · skip
            refine jr_iload_n F dX0_hold_42 rfl ?_
            refine jr_aload_n F dX0_hold_43 rfl ?_
            refine jr_getR (t := 26) F dX0_hold_44 fg_X0_11 (Nat.le_of_ble_eq_true rfl) rfl rfl ?_
            refine jr_iload_n F dX0_hold_47 rfl ?_
            refine jr_bipush F dX0_hold_48 (by decide) ?_
            refine jr_imul F dX0_hold_50 ?_
            refine jr_iload_n F dX0_hold_51 rfl ?_
            refine jr_iadd F dX0_hold_52 ?_
            refine jr_iald F dX0_hold_53 (Nat.le_of_ble_eq_true rfl) rfl (by omega) (fun q53 => ?_) (by omega) (by omega)
            refine jr_ti (b := (mat w 26 f t)) rfl ?_
            have z1 := gok_R hg f0 f1 t0 t1
            refine jr_icmp_lt (tgt := 59) F dX0_hold_54 (by decide) (fun c54 => ?_) (fun c54 => ?_) (by omega) (by omega)
            · skip
              refine jr_iload_n F dX0_hold_59 rfl ?_
              refine jr_aload_n F dX0_hold_60 rfl ?_
              refine jr_getR (t := 26) F dX0_hold_61 fg_X0_11 (Nat.le_of_ble_eq_true rfl) rfl rfl ?_
              refine jr_iload_n F dX0_hold_64 rfl ?_
              refine jr_bipush F dX0_hold_65 (by decide) ?_
              refine jr_imul F dX0_hold_67 ?_
              refine jr_iload_n F dX0_hold_68 rfl ?_
              refine jr_iadd F dX0_hold_69 ?_
              refine jr_iald F dX0_hold_70 (Nat.le_of_ble_eq_true rfl) rfl (by omega) (fun q70 => ?_) (by omega) (by omega)
              refine jr_ti (b := (mat w 26 t f)) rfl ?_
              have z2 := gok_R hg t0 t1 f0 f1
              refine jr_ineg F dX0_hold_71 ?_
              refine jr_icmp_ge (tgt := 77) F dX0_hold_72 (by decide) (fun c72 => ?_) (fun c72 => ?_) (by omega) (by omega)
              · skip
                refine jr_iconst F dX0_hold_77 ?_
                refine jr_istore F dX0_hold_78 (Nat.le_of_ble_eq_true rfl) rfl ?_
                have L80 : ∀ (fuel : Nat) (u : Wd) (a : Int), (w 25 1 - a).toNat < fuel → (0 ≤ a) → (a ≤ w 25 1) → (hin w u 26 (w 25 1) f t m a 0) → Jw (GX B) X (pB (-(mat w 26 t f) ≤ m) (hR w 26 (w 25 1) f t m)) 80 [some (.ref (ga (GX B) 25)), some (iv f), some (iv t), some (iv m), some (iv (w 25 1)), some (iv a)] [] u := by
                  intro fuel
                  induction fuel with
                  | zero => intro u a hfuel; exact absurd hfuel (Nat.not_lt_zero _)
                  | succ fuel ih80 =>
                      intro u a hfuel a0 a1 hu
                      refine jr_iload F dX0_hold_80 rfl ?_
                      refine jr_iload F dX0_hold_82 rfl ?_
                      refine jr_icmp_ge (tgt := 190) F dX0_hold_84 (by decide) (fun c84 => ?_) (fun c84 => ?_) (by omega) (by omega)
                      · skip
                        refine jr_iconst F dX0_hold_190 ?_
                        exact jr_zret F dX0_hold_191 (pB_of (bi_t (by omega)).symm ⟨hu.1, fun _ a b a0 a1 b0 b1 => by rw [hu.2 a b a0 a1 b0 b1, if_pos (by omega)], fun q => absurd (show -(mat w 26 t f) ≤ m by omega) q⟩) (by omega)
                      · skip
                        refine jr_iload F dX0_hold_87 rfl ?_
                        refine jr_bipush F dX0_hold_89 (by decide) ?_
                        refine jr_imul F dX0_hold_91 ?_
                        refine jr_istore F dX0_hold_92 (Nat.le_of_ble_eq_true rfl) rfl ?_
                        refine jr_aload_n F dX0_hold_94 rfl ?_
                        refine jr_getR (t := 26) F dX0_hold_95 fg_X0_11 (Nat.le_of_ble_eq_true rfl) rfl rfl ?_
                        refine jr_iload F dX0_hold_98 rfl ?_
                        refine jr_iload_n F dX0_hold_100 rfl ?_
                        refine jr_iadd F dX0_hold_101 ?_
                        refine jr_iald F dX0_hold_102 (Nat.le_of_ble_eq_true rfl) rfl (by omega) (fun q102 => ?_) (by omega) (by omega)
                        refine jr_ti (b := (mat w 26 a f)) (hin_rd hu a0 (by omega) f0 f1 (by omega)) ?_
                        have z3 := gok_R hg a0 (by omega) f0 f1
                        refine jr_iload_n F dX0_hold_103 rfl ?_
                        refine jr_iadd F dX0_hold_104 ?_
                        refine jr_istore F dX0_hold_105 (Nat.le_of_ble_eq_true rfl) rfl ?_
                        refine jr_iload F dX0_hold_107 rfl ?_
                        refine jr_aload_n F dX0_hold_109 rfl ?_
                        refine jr_getR (t := 26) F dX0_hold_110 fg_X0_11 (Nat.le_of_ble_eq_true rfl) rfl rfl ?_
                        refine jr_iload F dX0_hold_113 rfl ?_
                        refine jr_iload_n F dX0_hold_115 rfl ?_
                        refine jr_iadd F dX0_hold_116 ?_
                        refine jr_iald F dX0_hold_117 (Nat.le_of_ble_eq_true rfl) rfl (by omega) (fun q117 => ?_) (by omega) (by omega)
                        refine jr_ti (b := (mat w 26 a t)) (hin_rd hu a0 (by omega) t0 t1 (by omega)) ?_
                        have z4 := gok_R hg a0 (by omega) t0 t1
                        refine jr_icmp_lt (tgt := 124) F dX0_hold_118 (by decide) (fun c118 => ?_) (fun c118 => ?_) (by omega) (by omega)
                        · skip
                          refine jr_iconst F dX0_hold_124 ?_
                          refine jr_istore F dX0_hold_125 (Nat.le_of_ble_eq_true rfl) rfl ?_
                          have L127 : ∀ (fuel : Nat) (x : Wd) (b : Int), (w 25 1 - b).toNat < fuel → (0 ≤ b) → (b ≤ w 25 1) → (hin w x 26 (w 25 1) f t m a b) → Jw (GX B) X (pB (-(mat w 26 t f) ≤ m) (hR w 26 (w 25 1) f t m)) 127 [some (.ref (ga (GX B) 25)), some (iv f), some (iv t), some (iv m), some (iv (w 25 1)), some (iv a), some (iv (a * 11)), some (iv (mat w 26 a f + m)), some (iv b)] [] x := by
                            intro fuel
                            induction fuel with
                            | zero => intro x b hfuel; exact absurd hfuel (Nat.not_lt_zero _)
                            | succ fuel ih127 =>
                                intro x b hfuel b0 b1 hx
                                refine jr_ok (fun hO => ?_)
                                refine jr_iload F dX0_hold_127 rfl ?_
                                refine jr_iload F dX0_hold_129 rfl ?_
                                refine jr_icmp_ge (tgt := 184) F dX0_hold_131 (by decide) (fun c131 => ?_) (fun c131 => ?_) (by omega) (by omega)
                                · skip
                                  refine jr_iinc F dX0_hold_184 rfl (Nat.le_of_ble_eq_true rfl) rfl ?_
                                  refine jr_goto (tgt := 80) F dX0_hold_187 (by decide) ?_
                                  exact jr_sub (ih80 _ (a + 1) (by omega) (by omega) (by omega) (hin_row hx (by omega))) ⟨rfl, rfl, rfl, rfl, rfl, rfl, trivial⟩
                                · skip
                                  refine jr_iload F dX0_hold_134 rfl ?_
                                  refine jr_aload_n F dX0_hold_136 rfl ?_
                                  refine jr_getR (t := 26) F dX0_hold_137 fg_X0_11 (Nat.le_of_ble_eq_true rfl) rfl rfl ?_
                                  refine jr_iload_n F dX0_hold_140 rfl ?_
                                  refine jr_bipush F dX0_hold_141 (by decide) ?_
                                  refine jr_imul F dX0_hold_143 ?_
                                  refine jr_iload F dX0_hold_144 rfl ?_
                                  refine jr_iadd F dX0_hold_146 ?_
                                  refine jr_iald F dX0_hold_147 (Nat.le_of_ble_eq_true rfl) rfl (by omega) (fun q147 => ?_) (by omega) (by omega)
                                  refine jr_ti (b := (mat w 26 t b)) (hin_rt hx t0 t1 b0 (by omega) (by omega)) ?_
                                  have z5 := gok_R hg t0 t1 b0 (by omega)
                                  refine jr_iadd F dX0_hold_148 ?_
                                  refine jr_istore F dX0_hold_149 (Nat.le_of_ble_eq_true rfl) rfl ?_
                                  refine jr_iload F dX0_hold_151 rfl ?_
                                  refine jr_aload_n F dX0_hold_153 rfl ?_
                                  refine jr_getR (t := 26) F dX0_hold_154 fg_X0_11 (Nat.le_of_ble_eq_true rfl) rfl rfl ?_
                                  refine jr_iload F dX0_hold_157 rfl ?_
                                  refine jr_iload F dX0_hold_159 rfl ?_
                                  refine jr_iadd F dX0_hold_161 ?_
                                  refine jr_iald F dX0_hold_162 (Nat.le_of_ble_eq_true rfl) rfl (by omega) (fun q162 => ?_) (by omega) (by omega)
                                  refine jr_ti (b := (mat w 26 a b)) (hin_rd hx a0 (by omega) b0 (by omega) (by omega)) ?_
                                  have z6 := gok_R hg a0 (by omega) b0 (by omega)
                                  refine jr_icmp_ge (tgt := 178) F dX0_hold_163 (by decide) (fun c163 => ?_) (fun c163 => ?_) (by omega) (by omega)
                                  · skip
                                    refine jr_iinc F dX0_hold_178 rfl (Nat.le_of_ble_eq_true rfl) rfl ?_
                                    refine jr_goto (tgt := 127) F dX0_hold_181 (by decide) ?_
                                    exact jr_sub (ih127 _ (b + 1) (by omega) (by omega) (by omega) (hin_ns hx (by omega))) ⟨rfl, rfl, rfl, rfl, rfl, rfl, rfl, rfl, rfl, trivial⟩
                                  · skip
                                    refine jr_aload_n F dX0_hold_166 rfl ?_
                                    refine jr_getR (t := 26) F dX0_hold_167 fg_X0_11 (Nat.le_of_ble_eq_true rfl) rfl rfl ?_
                                    refine jr_iload F dX0_hold_170 rfl ?_
                                    refine jr_iload F dX0_hold_172 rfl ?_
                                    refine jr_iadd F dX0_hold_174 ?_
                                    refine jr_iload F dX0_hold_175 rfl ?_
                                    refine jr_iastx F dX0_hold_177 (Nat.le_of_ble_eq_true rfl) rfl (by omega) (fun w177 e177 => ?_) (by omega) (by omega) (by omega)
                                    refine jr_iinc F dX0_hold_178 rfl (Nat.le_of_ble_eq_true rfl) rfl ?_
                                    refine jr_goto (tgt := 127) F dX0_hold_181 (by decide) ?_
                                    exact jr_sub (ih127 _ (b + 1) (by omega) (by omega) (by omega) (by subst e177; exact hin_st hx (by omega) b0 (by omega) (by omega))) ⟨rfl, rfl, rfl, rfl, rfl, rfl, rfl, rfl, rfl, trivial⟩
                          exact jr_sub (L127 _ _ 0 (Nat.lt_succ_self _) (by omega) (by omega) hu) ⟨rfl, rfl, rfl, rfl, rfl, rfl, rfl, rfl, rfl, trivial⟩
                        · skip
                          refine jr_goto (tgt := 184) F dX0_hold_121 (by decide) ?_
                          refine jr_iinc F dX0_hold_184 rfl (Nat.le_of_ble_eq_true rfl) rfl ?_
                          refine jr_goto (tgt := 80) F dX0_hold_187 (by decide) ?_
                          exact jr_sub (ih80 _ (a + 1) (by omega) (by omega) (by omega) (hin_skip hg f0 f1 t0 t1 hu (by omega))) ⟨rfl, rfl, rfl, rfl, rfl, rfl, trivial⟩
                exact jr_sub (L80 _ _ 0 (Nat.lt_succ_self _) (by omega) (by omega) (hin_0 _ _ _ _ _ _)) ⟨rfl, rfl, rfl, rfl, rfl, rfl, trivial⟩
              · skip
                refine jr_iconst F dX0_hold_75 ?_
                exact jr_zret F dX0_hold_76 (pB_of (bi_f (by omega)).symm ⟨fun _ _ => rfl, fun q => absurd q (by omega), fun _ => rfl⟩) (by omega)
            · skip
              refine jr_iconst F dX0_hold_57 ?_
              exact jr_zret F dX0_hold_58 (pB_of (bi_t (by have z := hg.2.1 t f t t0 t1 f0 f1 t0 t1; have z2 := hg.1 t t0 t1; omega)).symm ⟨fun _ _ => rfl, fun _ a b a0 a1 b0 b1 => by have z := hg.2.1 a f b a0 a1 f0 f1 b0 b1; have z3 := hg.2.1 f t b f0 f1 t0 t1 b0 b1; unfold hld; omega, fun q => absurd (show -(mat w 26 t f) ≤ m by have z := hg.2.1 t f t t0 t1 f0 f1 t0 t1; have z2 := hg.1 t t0 t1; omega) q⟩) (by omega)
          · skip
            exfalso; omega
  refine jr_aload_n F dX0_hold_0 rfl ?_
  refine jr_getIx F (w 25 1) dX0_hold_1 fg_X0_15 (Nat.le_of_ble_eq_true rfl) rfl rfl rfl (fun q1 => ?_)
  refine jr_bipush F dX0_hold_4 (by decide) ?_
  refine jr_icmp_ge (tgt := 16) F dX0_hold_6 (by decide) (fun c6 => ?_) (fun c6 => ?_) (by omega) (by omega)
  · skip
    refine jr_bipush F dX0_hold_16 (by decide) ?_
    refine jr_ti (b := w 25 1) (by omega) ?_
    refine jr_istore F dX0_hold_18 (Nat.le_of_ble_eq_true rfl) rfl ?_
    exact jr_sub J20 ⟨rfl, rfl, rfl, rfl, rfl, trivial⟩
  · skip
    refine jr_aload_n F dX0_hold_9 rfl ?_
    refine jr_getIx F (w 25 1) dX0_hold_10 fg_X0_15 (Nat.le_of_ble_eq_true rfl) rfl rfl rfl (fun q10 => ?_)
    refine jr_goto (tgt := 18) F dX0_hold_13 (by decide) ?_
    refine jr_istore F dX0_hold_18 (Nat.le_of_ble_eq_true rfl) rfl ?_
    exact jr_sub J20 ⟨rfl, rfl, rfl, rfl, rfl, trivial⟩

