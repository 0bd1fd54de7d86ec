def bstw (g : Int → Int) : Nat → Int × Int
  | 0 => (-1, -1)
  | n + 1 => if (bstw g n).2 < g (n : Nat) then (((n : Nat) : Int), g (n : Nat)) else bstw g n
theorem bstw_y {g : Int → Int} {i : Int} (h0 : 0 ≤ i) (h : (bstw g i.toNat).2 < g i) : bstw g (i + 1).toNat = (i, g i) := by
  rw [show (i + 1).toNat = i.toNat + 1 by omega, bstw, Int.toNat_of_nonneg h0, if_pos h]
theorem bstw_n {g : Int → Int} {i : Int} (h0 : 0 ≤ i) (h : ¬ (bstw g i.toNat).2 < g i) : bstw g (i + 1).toNat = bstw g i.toNat := by
  rw [show (i + 1).toNat = i.toNat + 1 by omega, bstw, Int.toNat_of_nonneg h0, if_neg h]
noncomputable def besw (w : Wd) (s e : Int) : Int := if refq s e = 0 then @ite _ (hasL w s e (blB w s e) (-1)) (Classical.propDecidable _) (bstw (fun wi => gnw w s e (blB w s e) wi (opn w s e (blB w s e) (-1) (w 1 3).toNat)) (w 8 3).toNat).1 (-1) else refq s e
theorem bes_y {w : Wd} {s e o i bs ms : Int} (h7 : (s = 0 ∨ s = 1) ∧ 0 ≤ e ∧ e ≤ 9) (hh : (hasL w s e (blB w s e) (-1) ∧ o = opn w s e (blB w s e) (-1) (w 1 3).toNat ∧ 0 ≤ o ∧ o ≤ 40000) ∨ (¬ hasL w s e (blB w s e) (-1) ∧ o = -1 ∧ i = 0)) (hb : bstw (fun wi => gnw w s e (blB w s e) wi o) i.toNat = (bs, ms)) (he : i = w 8 3 ∨ o = -1) : bs = besw w s e := by
  unfold besw
  rw [refq_y h7.1 h7.2, if_pos rfl]
  rcases hh with ⟨a, b, c, d⟩ | ⟨a, b, c⟩
  · rw [if_pos a, ← b]
    have : i = w 8 3 := by omega
    rw [← this, hb]
  · rw [if_neg a]
    subst c
    have : ((-1 : Int), (-1 : Int)) = (bs, ms) := hb
    injection this with p q
    exact p.symm

set_option maxRecDepth 100000 in
set_option maxHeartbeats 4000000 in
theorem c_X7_closes {B : Bs} {w : Wd} {s e wi : Int} (hQ : QI w) (hs : inR s) (he : inR e) (hwi : inR wi) : Sp (GX B) 7 yX7_closes cX7_closes 6 (Option.some FieldType.int) [.ref (ga (GX B) (0)), iv (s), iv (e), iv (wi)] w (pE (fun x u => x = clow w s e wi ∧ sq w u)) := by
  refine Sp.of (by decide) (Nat.le_of_ble_eq_true rfl) (fun X F => ?_)
  have hB := blB_R hQ.2.2.2.2.1 s e
  have n10 := hQ.2.1.1
  have n6 := hQ.2.2.2.2.2.2.1.1
  show Jw (GX B) X _ 0 [some (.ref (ga (GX B) (0))), some (iv (s)), some (iv (e)), some (iv (wi))] [] w
  refine jr_iload_n F dX7_closes_0 rfl ?_
  refine jr_iload_n F dX7_closes_1 rfl ?_
  refine jr_sI F dX7_closes_2 cs_X7_186 (c_X7_refusal (by omega) (by omega)) rfl (Nat.le_of_ble_eq_true rfl) (Nat.le_of_ble_eq_true rfl) rfl (Nat.le_of_ble_eq_true rfl) ?_
  refine jr_ti (b := (refq s e)) rfl ?_
  have rR := refq_R s e
  refine jr_istore F dX7_closes_5 (Nat.le_of_ble_eq_true rfl) rfl ?_
  refine jr_iload F dX7_closes_7 rfl ?_
  refine jr_if_eq (tgt := 15) F dX7_closes_9 (by decide) (fun c9 => ?_) (fun c9 => ?_) (by omega)
  · skip
    have h7 := refq_0 c9
    refine jr_aload_n F dX7_closes_15 rfl ?_
    refine jr_getR (t := 8) F dX7_closes_16 fg_X7_25 (Nat.le_of_ble_eq_true rfl) rfl rfl ?_
    refine jr_iload_n F dX7_closes_19 rfl ?_
    refine jr_vI F dX7_closes_20 cv_X7_137 (c_X6_has_8 (by omega)) (Nat.le_of_ble_eq_true rfl) rfl rfl rfl rfl (Nat.le_of_ble_eq_true rfl) (Nat.le_of_ble_eq_true rfl) rfl (Nat.le_of_ble_eq_true rfl) ?_
    refine jr_ifne_b (tgt := 29) F dX7_closes_23 (by decide) (fun c23 => ?_) (fun c23 => ?_)
    · skip
      refine jr_aload_n F dX7_closes_29 rfl ?_
      refine jr_iload_n F dX7_closes_30 rfl ?_
      refine jr_iload_n F dX7_closes_31 rfl ?_
      refine jr_vE F dX7_closes_32 cv_X7_189 (c_lay h7.1 hQ h7.2) (Nat.le_of_ble_eq_true rfl) rfl rfl rfl rfl (Nat.le_of_ble_eq_true rfl) (Nat.le_of_ble_eq_true rfl) rfl (Nat.le_of_ble_eq_true rfl) (fun r32 w32 h32 => ?_)
      rw [h32.1]
      refine jr_istore F dX7_closes_35 (Nat.le_of_ble_eq_true rfl) rfl ?_
      refine jr_aload_n F dX7_closes_37 rfl ?_
      refine jr_getR (t := 20) F dX7_closes_38 fg_X7_57 (Nat.le_of_ble_eq_true rfl) rfl rfl ?_
      refine jr_iload F dX7_closes_41 rfl ?_
      refine jr_iconst F dX7_closes_43 ?_
      refine jr_iconst F dX7_closes_44 ?_
      refine jr_vB F dX7_closes_45 cv_X7_192 (c_qfind hQ h32.2 (by omega) (Or.inl rfl)) (Nat.le_of_ble_eq_true rfl) rfl rfl rfl rfl (Nat.le_of_ble_eq_true rfl) (Nat.le_of_ble_eq_true rfl) rfl (Nat.le_of_ble_eq_true rfl) (fun w45 h45 => ?_)
      refine jr_ifeq_b (tgt := 69) F dX7_closes_48 (by decide) (fun c48 => ?_) (fun c48 => ?_)
      · skip
        refine jr_iconst F dX7_closes_69 ?_
        exact jr_iret F dX7_closes_70 (pE_of ⟨by unfold clow; rw [if_pos c9, if_neg (fun z => z c23), if_neg c48], h45.1.1⟩)
      · skip
        refine jr_aload_n F dX7_closes_51 rfl ?_
        refine jr_iload F dX7_closes_52 rfl ?_
        refine jr_iload_n F dX7_closes_54 rfl ?_
        refine jr_iload_n F dX7_closes_55 rfl ?_
        refine jr_aload_n F dX7_closes_56 rfl ?_
        refine jr_getR (t := 20) F dX7_closes_57 fg_X7_57 (Nat.le_of_ble_eq_true rfl) rfl rfl ?_
        refine jr_vI F dX7_closes_60 cv_X7_212 (c_X1_openness_20 (by rw [h45.1.1 1 (by decide) (by decide)]; omega) (by rw [h45.1.2.1]; omega)) (Nat.le_of_ble_eq_true rfl) rfl rfl rfl rfl (Nat.le_of_ble_eq_true rfl) (Nat.le_of_ble_eq_true rfl) rfl (Nat.le_of_ble_eq_true rfl) ?_
        refine jr_ti (b := (opn w s e (blB w s e) (-1) (w 1 3).toNat)) (by rw [h45.1.1 1 (by decide) (by decide)]; exact opn_e h45.2.1 _ (by omega)) ?_
        have oR := opn_0 h45.2.2.1 (w 1 3).toNat (by omega)
        refine jr_vE F dX7_closes_63 cv_X7_221 (c_X7_gain hQ h45.1 h7.2 (by omega) c23) (Nat.le_of_ble_eq_true rfl) rfl rfl rfl rfl (Nat.le_of_ble_eq_true rfl) (Nat.le_of_ble_eq_true rfl) rfl (Nat.le_of_ble_eq_true rfl) (fun r63 w63 h63 => ?_)
        refine jr_goto (tgt := 70) F dX7_closes_66 (by decide) ?_
        exact jr_iret F dX7_closes_70 (pE_of ⟨by unfold clow; rw [if_pos c9, if_neg (fun z => z c23), if_pos c48]; exact h63.1, h63.2.1.1⟩)
    · skip
      refine jr_bipush F dX7_closes_26 (by decide) ?_
      exact jr_iret F dX7_closes_28 (pE_of ⟨by unfold clow; rw [if_pos c9, if_pos c23], sq_r w⟩)
  · skip
    refine jr_iload F dX7_closes_12 rfl ?_
    exact jr_iret F dX7_closes_14 (pE_of ⟨by unfold clow; rw [if_neg c9], sq_r w⟩)

set_option maxRecDepth 100000 in
set_option maxHeartbeats 4000000 in
theorem c_X7_best {B : Bs} {w : Wd} {s e : Int} (hQ : QI w) (hs : inR s) (he : inR e) : Sp (GX B) 7 yX7_best cX7_best 10 (Option.some FieldType.int) [.ref (ga (GX B) (0)), iv (s), iv (e)] w (pE (fun x u => x = besw w s e ∧ sq w u)) := by
  refine Sp.of (by decide) (Nat.le_of_ble_eq_true rfl) (fun X F => ?_)
  have hB := blB_R hQ.2.2.2.2.1 s e
  have n10 := hQ.2.1.1
  have n6 := hQ.2.2.2.2.2.2.1.1
  show Jw (GX B) X _ 0 [some (.ref (ga (GX B) (0))), some (iv (s)), some (iv (e))] [] w
  have L56 : ∀ (fuel : Nat) (x : Wd) (o : Int) (i : Int) (bs : Int) (ms : Int), (w 8 3 - i).toNat < fuel → (0 ≤ i) → (i ≤ w 8 3) → ((s = 0 ∨ s = 1) ∧ 0 ≤ e ∧ e ≤ 9) → (LD w x s e) → ((hasL w s e (blB w s e) (-1) ∧ o = opn w s e (blB w s e) (-1) (w 1 3).toNat ∧ 0 ≤ o ∧ o ≤ 40000) ∨ (¬ hasL w s e (blB w s e) (-1) ∧ o = -1 ∧ i = 0)) → (-40000 ≤ ms ∧ ms ≤ 40000) → (bstw (fun wi => gnw w s e (blB w s e) wi o) i.toNat = (bs, ms)) → Jw (GX B) X (pE (fun x u => x = besw w s e ∧ sq w u)) 56 [some (.ref (ga (GX B) 0)), some (iv s), some (iv e), none, some (iv (blB w s e)), some (iv o), some (iv bs), some (iv ms), some (iv i)] [] x := by
    intro fuel
    induction fuel with
    | zero => intro x o i bs ms hfuel; exact absurd hfuel (Nat.not_lt_zero _)
    | succ fuel ih56 =>
        intro x o i bs ms hfuel h0 h1 h7 hx hh hm hb
        refine jr_iload F dX7_best_56 rfl ?_
        refine jr_aload_n F dX7_best_58 rfl ?_
        refine jr_getR (t := 8) F dX7_best_59 fg_X7_25 (Nat.le_of_ble_eq_true rfl) rfl rfl ?_
        refine jr_vI F dX7_best_62 cv_X7_139 (c_X6_size_8) (Nat.le_of_ble_eq_true rfl) rfl rfl rfl rfl (Nat.le_of_ble_eq_true rfl) (Nat.le_of_ble_eq_true rfl) rfl (Nat.le_of_ble_eq_true rfl) ?_
        refine jr_ti (b := (w 8 3)) (congrFun (hx.1 8 (by decide) (by decide)) 3) ?_
        refine jr_icmp_ge (tgt := 108) F dX7_best_65 (by decide) (fun c65 => ?_) (fun c65 => ?_) (by omega) (by omega)
        · skip
          refine jr_iload F dX7_best_108 rfl ?_
          exact jr_iret F dX7_best_110 (pE_of ⟨bes_y h7 hh hb (by omega), hx.1⟩)
        · skip
          refine jr_iload F dX7_best_68 rfl ?_
          refine jr_iconst F dX7_best_70 ?_
          refine jr_icmp_eq (tgt := 108) F dX7_best_71 (by decide) (fun c71 => ?_) (fun c71 => ?_) (by omega) (by omega)
          · skip
            refine jr_iload F dX7_best_108 rfl ?_
            exact jr_iret F dX7_best_110 (pE_of ⟨bes_y h7 hh hb (by omega), hx.1⟩)
          · skip
            have hh1 := hh.resolve_right (fun z => c71 z.2.1)
            refine jr_aload_n F dX7_best_74 rfl ?_
            refine jr_iload F dX7_best_75 rfl ?_
            refine jr_iload_n F dX7_best_77 rfl ?_
            refine jr_iload F dX7_best_78 rfl ?_
            refine jr_iload F dX7_best_80 rfl ?_
            refine jr_vE F dX7_best_82 cv_X7_221 (c_X7_gain hQ hx h7.2 (by omega) (by omega)) (Nat.le_of_ble_eq_true rfl) rfl rfl rfl rfl (Nat.le_of_ble_eq_true rfl) (Nat.le_of_ble_eq_true rfl) rfl (Nat.le_of_ble_eq_true rfl) (fun r82 w82 h82 => ?_)
            have gR := h82.2.2 (by omega) (by omega)
            have ge := h82.1
            refine jr_istore F dX7_best_85 (Nat.le_of_ble_eq_true rfl) rfl ?_
            refine jr_iload F dX7_best_87 rfl ?_
            refine jr_iload F dX7_best_89 rfl ?_
            refine jr_icmp_le (tgt := 102) F dX7_best_91 (by decide) (fun c91 => ?_) (fun c91 => ?_) (by omega) (by omega)
            · skip
              refine jr_iinc F dX7_best_102 rfl (Nat.le_of_ble_eq_true rfl) rfl ?_
              refine jr_goto (tgt := 56) F dX7_best_105 (by decide) ?_
              exact jr_sub (ih56 _ _ (i + 1) _ _ (by omega) (by omega) (by omega) h7 h82.2.1 (Or.inl hh1) (by omega) (by rw [bstw_n h0 (by rw [hb]; show ¬ ms < _; omega), hb])) ⟨rfl, rfl, rfl, rfl, rfl, rfl, rfl, rfl, trivial⟩
            · skip
              refine jr_iload F dX7_best_94 rfl ?_
              refine jr_istore F dX7_best_96 (Nat.le_of_ble_eq_true rfl) rfl ?_
              refine jr_iload F dX7_best_98 rfl ?_
              refine jr_istore F dX7_best_100 (Nat.le_of_ble_eq_true rfl) rfl ?_
              refine jr_iinc F dX7_best_102 rfl (Nat.le_of_ble_eq_true rfl) rfl ?_
              refine jr_goto (tgt := 56) F dX7_best_105 (by decide) ?_
              exact jr_sub (ih56 _ _ (i + 1) i r82 (by omega) (by omega) (by omega) h7 h82.2.1 (Or.inl hh1) (by omega) (by rw [ge]; exact bstw_y h0 (by rw [hb]; show ms < _; omega))) ⟨rfl, rfl, rfl, rfl, rfl, rfl, rfl, rfl, trivial⟩
  refine jr_iload_n F dX7_best_0 rfl ?_
  refine jr_iload_n F dX7_best_1 rfl ?_
  refine jr_sI F dX7_best_2 cs_X7_186 (c_X7_refusal (by omega) (by omega)) rfl (Nat.le_of_ble_eq_true rfl) (Nat.le_of_ble_eq_true rfl) rfl (Nat.le_of_ble_eq_true rfl) ?_
  refine jr_ti (b := (refq s e)) rfl ?_
  have rR := refq_R s e
  refine jr_istore_n F dX7_best_5 (Nat.le_of_ble_eq_true rfl) rfl ?_
  refine jr_iload_n F dX7_best_6 rfl ?_
  refine jr_if_eq (tgt := 12) F dX7_best_7 (by decide) (fun c7 => ?_) (fun c7 => ?_) (by omega)
  · skip
    have h7 := refq_0 c7
    refine jr_aload_n F dX7_best_12 rfl ?_
    refine jr_iload_n F dX7_best_13 rfl ?_
    refine jr_iload_n F dX7_best_14 rfl ?_
    refine jr_vE F dX7_best_15 cv_X7_189 (c_lay h7.1 hQ h7.2) (Nat.le_of_ble_eq_true rfl) rfl rfl rfl rfl (Nat.le_of_ble_eq_true rfl) (Nat.le_of_ble_eq_true rfl) rfl (Nat.le_of_ble_eq_true rfl) (fun r15 w15 h15 => ?_)
    rw [h15.1]
    refine jr_istore F dX7_best_18 (Nat.le_of_ble_eq_true rfl) rfl ?_
    refine jr_aload_n F dX7_best_20 rfl ?_
    refine jr_getR (t := 20) F dX7_best_21 fg_X7_57 (Nat.le_of_ble_eq_true rfl) rfl rfl ?_
    refine jr_iload F dX7_best_24 rfl ?_
    refine jr_iconst F dX7_best_26 ?_
    refine jr_iconst F dX7_best_27 ?_
    refine jr_vB F dX7_best_28 cv_X7_192 (c_qfind hQ h15.2 (by omega) (Or.inl rfl)) (Nat.le_of_ble_eq_true rfl) rfl rfl rfl rfl (Nat.le_of_ble_eq_true rfl) (Nat.le_of_ble_eq_true rfl) rfl (Nat.le_of_ble_eq_true rfl) (fun w28 h28 => ?_)
    refine jr_ifeq_b (tgt := 44) F dX7_best_31 (by decide) (fun c31 => ?_) (fun c31 => ?_)
    · skip
      refine jr_iconst F dX7_best_44 ?_
      refine jr_istore F dX7_best_45 (Nat.le_of_ble_eq_true rfl) rfl ?_
      refine jr_iconst F dX7_best_47 ?_
      refine jr_istore F dX7_best_48 (Nat.le_of_ble_eq_true rfl) rfl ?_
      refine jr_iconst F dX7_best_50 ?_
      refine jr_istore F dX7_best_51 (Nat.le_of_ble_eq_true rfl) rfl ?_
      refine jr_iconst F dX7_best_53 ?_
      refine jr_istore F dX7_best_54 (Nat.le_of_ble_eq_true rfl) rfl ?_
      exact jr_sub (L56 _ w28 (-1) 0 (-1) (-1) (Nat.lt_succ_self _) (by omega) (by omega) h7 h28.1 (Or.inr ⟨c31, rfl, rfl⟩) (by omega) rfl) ⟨rfl, rfl, rfl, rfl, rfl, rfl, rfl, rfl, trivial⟩
    · skip
      refine jr_aload_n F dX7_best_34 rfl ?_
      refine jr_getR (t := 20) F dX7_best_35 fg_X7_57 (Nat.le_of_ble_eq_true rfl) rfl rfl ?_
      refine jr_vI F dX7_best_38 cv_X7_212 (c_X1_openness_20 (by rw [h28.1.1 1 (by decide) (by decide)]; omega) (by rw [h28.1.2.1]; omega)) (Nat.le_of_ble_eq_true rfl) rfl rfl rfl rfl (Nat.le_of_ble_eq_true rfl) (Nat.le_of_ble_eq_true rfl) rfl (Nat.le_of_ble_eq_true rfl) ?_
      refine jr_ti (b := (opn w s e (blB w s e) (-1) (w 1 3).toNat)) (by rw [h28.1.1 1 (by decide) (by decide)]; exact opn_e h28.2.1 _ (by omega)) ?_
      have oR := opn_0 h28.2.2.1 (w 1 3).toNat (by omega)
      refine jr_goto (tgt := 45) F dX7_best_41 (by decide) ?_
      refine jr_istore F dX7_best_45 (Nat.le_of_ble_eq_true rfl) rfl ?_
      refine jr_iconst F dX7_best_47 ?_
      refine jr_istore F dX7_best_48 (Nat.le_of_ble_eq_true rfl) rfl ?_
      refine jr_iconst F dX7_best_50 ?_
      refine jr_istore F dX7_best_51 (Nat.le_of_ble_eq_true rfl) rfl ?_
      refine jr_iconst F dX7_best_53 ?_
      refine jr_istore F dX7_best_54 (Nat.le_of_ble_eq_true rfl) rfl ?_
      exact jr_sub (L56 _ w28 _ 0 (-1) (-1) (Nat.lt_succ_self _) (by omega) (by omega) h7 h28.1 (Or.inl ⟨c31, rfl, by omega, by omega⟩) (by omega) rfl) ⟨rfl, rfl, rfl, rfl, rfl, rfl, rfl, rfl, trivial⟩
  · skip
    refine jr_iload_n F dX7_best_10 rfl ?_
    exact jr_iret F dX7_best_11 (pE_of ⟨by unfold besw; rw [if_neg c7], sq_r w⟩)

