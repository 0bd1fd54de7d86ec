def dfn (a m : Nat) : Nat := a ^^^ (a &&& m)
theorem dfn_bit (a m k : Nat) : (dfn a m).testBit k = (a.testBit k && !m.testBit k) := by
  unfold dfn
  rw [Nat.testBit_xor, Nat.testBit_and]
  cases a.testBit k <;> cases m.testBit k <;> rfl
theorem dfn_le (a m : Nat) : dfn a m ≤ a := by
  apply Nat.le_of_testBit
  intro i h
  rw [dfn_bit] at h
  cases q : a.testBit i
  · rw [q] at h; cases h
  · rfl
/-- the bits of a that m lacks -/
def dfb (a m : Int) : Int := ((dfn a.toNat m.toNat : Nat) : Int)
theorem dfb_le {a : Int} (m : Int) (ha : 0 ≤ a) : 0 ≤ dfb a m ∧ dfb a m ≤ a := by
  have e := dfn_le a.toNat m.toNat
  unfold dfb
  omega
theorem dfb_in {a m k : Int} : inb (dfb a m) k ↔ inb a k ∧ ¬ inb m k := by
  unfold dfb inb
  rw [Int.toNat_natCast, dfn_bit, Bool.and_eq_true, Bool.not_eq_true']
  cases m.toNat.testBit k.toNat
  · exact ⟨fun h => ⟨h.1, fun z => by cases z⟩, fun h => ⟨h.1, rfl⟩⟩
  · exact ⟨fun h => (by cases h.2), fun h => absurd rfl h.2⟩
theorem dfb_0 {a m : Int} : dfb a m = 0 ↔ ∀ k : Int, 0 ≤ k → inb a k → inb m k := by
  unfold dfb inb
  constructor
  · intro h k _ hk
    have q := dfn_bit a.toNat m.toNat k.toNat
    have z : dfn a.toNat m.toNat = 0 := by omega
    rw [z, Nat.zero_testBit, hk] at q
    cases h2 : m.toNat.testBit k.toNat
    · rw [h2] at q; cases q
    · rfl
  · intro h
    have z : dfn a.toNat m.toNat = 0 := by
      apply Nat.eq_of_testBit_eq
      intro k
      rw [dfn_bit, Nat.zero_testBit]
      cases q : a.toNat.testBit k
      · rfl
      · have y := h (k : Int) (by omega) (by rw [Int.toNat_natCast]; exact q)
        rw [Int.toNat_natCast] at y
        rw [y]; rfl
    omega
theorem b_andn {a m : Int} (ha : 0 ≤ a ∧ a ≤ 2147483647) (hm : 0 ≤ m ∧ m ≤ 2147483647) : Int32.ofInt a &&& (Int32.ofInt m ^^^ Int32.ofInt (-1)) = Int32.ofInt (dfb a m) := by
  have l := dfn_le a.toNat m.toNat
  unfold dfb
  rw [i32_nat ha.1, i32_nat hm.1, show Int32.ofInt (-1) = nI 4294967295 from by decide, i32_n]
  apply Int32.toBitVec_inj.mp
  apply BitVec.eq_of_toNat_eq
  rw [Int32.toBitVec_and, Int32.toBitVec_xor, BitVec.toNat_and, BitVec.toNat_xor, pk_tn (by omega), pk_tn (by omega), pk_tn (by omega), pk_tn (by omega)]
  apply Nat.eq_of_testBit_eq
  intro k
  rw [Nat.testBit_and, Nat.testBit_xor, dfn_bit, show 4294967295 = 2 ^ 32 - 1 from rfl, Nat.testBit_two_pow_sub_one]
  by_cases hk : k < 32
  · rw [decide_eq_true hk]
    cases a.toNat.testBit k <;> cases m.toNat.testBit k <;> rfl
  · rw [Nat.testBit_lt_two_pow (Nat.lt_of_lt_of_le (show a.toNat < 2 ^ 32 by omega) (Nat.pow_le_pow_right (by omega) (by omega)))]
    rfl
def pw (t : Int) : Int := ((2 ^ t.toNat : Nat) : Int)
theorem pw_R {t : Int} (ht : t ≤ 30) : 0 ≤ pw t ∧ pw t ≤ 1073741824 := by
  have h : (2 : Nat) ^ t.toNat ≤ 2 ^ 30 := Nat.pow_le_pow_right (by omega) (by omega)
  unfold pw
  generalize (2 : Nat) ^ t.toNat = p at h ⊢
  omega
theorem b_clb {b t : Int} (hb : 0 ≤ b ∧ b ≤ 2147483647) (ht : 0 ≤ t ∧ t ≤ 30) : Int32.ofInt b &&& ((Int32.ofInt 1 <<< (Int32.ofInt t &&& 31)) ^^^ Int32.ofInt (-1)) = Int32.ofInt (dfb b (pw t)) := by
  have p := pw_R ht.2
  rw [b_shl1 ht]
  exact b_andn (m := pw t) hb (by omega)
/-- without this tie the span's end lies elsewhere -/
def hbP (w : Wd) (s e b r side t : Int) : Prop := inb b t ∧ hasL w s e (dfb b (pw t)) (-1) ∧ ¬ spn w s e (dfb b (pw t)) (-1) r side = spn w s e b (-1) r side
noncomputable def hldw (w : Wd) (s e b r side : Int) : Int := @ite _ (hasL w s e b (-1)) (Classical.propDecidable _) (bsI (hbP w s e b r side) (w 5 3)) 0
noncomputable def heldw (w : Wd) (s e r side : Int) : Int := if refq s e = 0 then (if ¬ (0 ≤ r ∧ r < w 1 3) then -101 else if ¬ (0 ≤ side ∧ side ≤ 1) then -102 else hldw w s e (blB w s e) r side) else refq s e
theorem sps_R {B : Bs} {w x : Wd} {s e b wi r side : Int} (hO : okW (GX B) x) (h : SPS w x s e b wi) (hr : 0 ≤ r ∧ r < w 1 3) (h10 : w 1 3 ≤ 10) (hs : 0 ≤ side ∧ side ≤ 1) : inR (spn w s e b wi r side) := by
  rw [← h.2 r side hr.1 hr.2 hs.1 hs.2]
  exact end_R hO hr.1 (by omega)
def wkn (w : Wd) (wi e : Int) : Prop := wfa w wi 6 ≤ e ∧ knw w (wfa w wi 1) e ∧ (wfa w wi 3 = -1 ∨ knw w (wfa w wi 3) e)
theorem c_wkn {B : Bs} {w u : Wd} {wi e : Int} (h : sq w u) (ht : 0 ≤ wi ∧ wi < 100) (h10 : u 1 3 ≤ 10) (he : inR e) : Sp (GX B) 3 yX6_isKnown cX6_isKnown 5 (Option.some FieldType.boolean) [.ref (ga (GX B) (8)), iv wi, iv e, .ref (ga (GX B) (1))] u (pI u (bi (wkn w wi e))) := by
  have z := c_X6_isKnown_8 (B := B) (w := u) (t := wi) (e := e) ht h10 he
  rw [cell_wfa (h 9 (by decide) (by decide)), sq_knw h] at z
  exact z
noncomputable def gnw (w : Wd) (s e b wi o : Int) : Int := @ite _ (wkn w wi e ∧ hasL w s e b wi) (Classical.propDecidable _) (o - opn w s e b wi (w 1 3).toNat) (-1)
noncomputable def clow (w : Wd) (s e wi : Int) : Int := if refq s e = 0 then (if ¬ (0 ≤ wi ∧ wi < w 8 3) then -101 else @ite _ (hasL w s e (blB w s e) (-1)) (Classical.propDecidable _) (gnw w s e (blB w s e) wi (opn w s e (blB w s e) (-1) (w 1 3).toNat)) (-1)) else refq s e

set_option maxRecDepth 100000 in
set_option maxHeartbeats 4000000 in
theorem c_X7_holders {B : Bs} {w u : Wd} {s e b r side : Int} (hQ : QI w) (hD : LD w u s e) (he : 0 ≤ e ∧ e ≤ 9) (hb : 0 ≤ b ∧ b ≤ 255) (hr : 0 ≤ r ∧ r < w 1 3) (hsd : 0 ≤ side ∧ side ≤ 1) : Sp (GX B) 6 yX7_holders cX7_holders 8 (Option.some FieldType.int) [.ref (ga (GX B) (0)), iv (b), iv (r), iv (side)] u (pE (fun x y => x = hldw w s e b r side ∧ LD w y s e)) := by
  refine Sp.of (by decide) (Nat.le_of_ble_eq_true rfl) (fun X F => ?_)
  have n10 := hQ.2.1.1
  have n8 := hQ.2.2.2.2.1.1
  show Jw (GX B) X _ 0 [some (.ref (ga (GX B) (0))), some (iv (b)), some (iv (r)), some (iv (side))] [] u
  refine jr_aload_n F dX7_holders_0 rfl ?_
  refine jr_getR (t := 20) F dX7_holders_1 fg_X7_57 (Nat.le_of_ble_eq_true rfl) rfl rfl ?_
  refine jr_iload_n F dX7_holders_4 rfl ?_
  refine jr_iconst F dX7_holders_5 ?_
  refine jr_iconst F dX7_holders_6 ?_
  refine jr_vB F dX7_holders_7 cv_X7_192 (c_qfind hQ hD (by omega) (Or.inl rfl)) (Nat.le_of_ble_eq_true rfl) rfl rfl rfl rfl (Nat.le_of_ble_eq_true rfl) (Nat.le_of_ble_eq_true rfl) rfl (Nat.le_of_ble_eq_true rfl) (fun w7 h7 => ?_)
  refine jr_ifne_b (tgt := 15) F dX7_holders_10 (by decide) (fun c10 => ?_) (fun c10 => ?_)
  · skip
    refine jr_ok (fun hO => ?_)
    refine jr_aload_n F dX7_holders_15 rfl ?_
    refine jr_getR (t := 20) F dX7_holders_16 fg_X7_57 (Nat.le_of_ble_eq_true rfl) rfl rfl ?_
    refine jr_iload_n F dX7_holders_19 rfl ?_
    refine jr_iload_n F dX7_holders_20 rfl ?_
    refine jr_vI F dX7_holders_21 cv_X7_196 (c_X1_end_20 (by omega) (by omega) (by rw [h7.1.1 1 (by decide) (by decide)]; omega) (by rw [h7.1.2.1]; have := hD.2; omega)) (Nat.le_of_ble_eq_true rfl) rfl rfl rfl rfl (Nat.le_of_ble_eq_true rfl) (Nat.le_of_ble_eq_true rfl) rfl (Nat.le_of_ble_eq_true rfl) ?_
    refine jr_ti (b := (spn w s e b (-1) r side)) (h7.2.1.2 r side hr.1 hr.2 hsd.1 hsd.2) ?_
    have k21 := sps_R hO h7.2.1 hr (by omega) hsd
    refine jr_istore F dX7_holders_24 (Nat.le_of_ble_eq_true rfl) rfl ?_
    refine jr_iconst F dX7_holders_26 ?_
    refine jr_istore F dX7_holders_27 (Nat.le_of_ble_eq_true rfl) rfl ?_
    refine jr_iconst F dX7_holders_29 ?_
    refine jr_istore F dX7_holders_30 (Nat.le_of_ble_eq_true rfl) rfl ?_
    have L32 : ∀ (fuel : Nat) (x : Wd) (i : Int) (z : Int), (w 5 3 - i).toNat < fuel → (0 ≤ i) → (i ≤ w 5 3) → (LD w x s e) → (z = bsI (hbP w s e b r side) i) → Jw (GX B) X (pE (fun x y => x = hldw w s e b r side ∧ LD w y s e)) 32 [some (.ref (ga (GX B) 0)), some (iv b), some (iv r), some (iv side), some (iv (spn w s e b (-1) r side)), some (iv z), some (iv i)] [] x := by
      intro fuel
      induction fuel with
      | zero => intro x i z hfuel; exact absurd hfuel (Nat.not_lt_zero _)
      | succ fuel ih32 =>
          intro x i z hfuel h0 h1 hx hz
          have zR := bsI_R (hbP w s e b r side) (i := i) 10 (by omega)
          refine jr_iload F dX7_holders_32 rfl ?_
          refine jr_aload_n F dX7_holders_34 rfl ?_
          refine jr_getR (t := 5) F dX7_holders_35 fg_X7_21 (Nat.le_of_ble_eq_true rfl) rfl rfl ?_
          refine jr_vI F dX7_holders_38 cv_X7_139 (c_X6_size_5) (Nat.le_of_ble_eq_true rfl) rfl rfl rfl rfl (Nat.le_of_ble_eq_true rfl) (Nat.le_of_ble_eq_true rfl) rfl (Nat.le_of_ble_eq_true rfl) ?_
          refine jr_ti (b := (w 5 3)) (congrFun (hx.1 5 (by decide) (by decide)) 3) ?_
          refine jr_icmp_ge (tgt := 102) F dX7_holders_41 (by decide) (fun c41 => ?_) (fun c41 => ?_) (by omega) (by omega)
          · skip
            refine jr_iload F dX7_holders_102 rfl ?_
            exact jr_iret F dX7_holders_104 (pE_of ⟨by unfold hldw; rw [if_pos c10, hz, show i = w 5 3 by omega], hx⟩)
          · skip
            refine jr_iconst F dX7_holders_44 ?_
            refine jr_iload F dX7_holders_45 rfl ?_
            refine jr_ishl F dX7_holders_47 ?_
            refine jr_istore F dX7_holders_48 (Nat.le_of_ble_eq_true rfl) rfl ?_
            refine jr_iload_n F dX7_holders_50 rfl ?_
            refine jr_iload F dX7_holders_51 rfl ?_
            refine jr_iand F dX7_holders_53 ?_
            refine jr_top (z := tst b i) F (b_tst (by omega) (by omega)) ?_
            refine jr_if_eq (tgt := 96) F dX7_holders_54 (by decide) (fun c54 => ?_) (fun c54 => ?_) (by have := tst_R (b := b) (t := i) (by omega); omega)
            · skip
              refine jr_iinc F dX7_holders_96 rfl (Nat.le_of_ble_eq_true rfl) rfl ?_
              refine jr_goto (tgt := 32) F dX7_holders_99 (by decide) ?_
              exact jr_sub (ih32 _ (i + 1) _ (by omega) (by omega) (by omega) hx (by rw [hz, bsI_f h0 (fun q => tst_0.mp c54 q.1)])) ⟨rfl, rfl, rfl, rfl, rfl, rfl, rfl, trivial⟩
            · skip
              refine jr_aload_n F dX7_holders_57 rfl ?_
              refine jr_getR (t := 20) F dX7_holders_58 fg_X7_57 (Nat.le_of_ble_eq_true rfl) rfl rfl ?_
              refine jr_iload_n F dX7_holders_61 rfl ?_
              refine jr_iload F dX7_holders_62 rfl ?_
              refine jr_iconst F dX7_holders_64 ?_
              refine jr_ixor F dX7_holders_65 ?_
              refine jr_iand F dX7_holders_66 ?_
              refine jr_top (z := dfb b (pw i)) F (b_clb (by omega) (by omega)) ?_
              refine jr_iconst F dX7_holders_67 ?_
              refine jr_iconst F dX7_holders_68 ?_
              refine jr_vB F dX7_holders_69 cv_X7_192 (c_qfind hQ hx (by have := dfb_le (a := b) (pw i) (by omega); omega) (Or.inl rfl)) (Nat.le_of_ble_eq_true rfl) rfl rfl rfl rfl (Nat.le_of_ble_eq_true rfl) (Nat.le_of_ble_eq_true rfl) rfl (Nat.le_of_ble_eq_true rfl) (fun w69 h69 => ?_)
              refine jr_ifeq_b (tgt := 96) F dX7_holders_72 (by decide) (fun c72 => ?_) (fun c72 => ?_)
              · skip
                refine jr_iinc F dX7_holders_96 rfl (Nat.le_of_ble_eq_true rfl) rfl ?_
                refine jr_goto (tgt := 32) F dX7_holders_99 (by decide) ?_
                exact jr_sub (ih32 _ (i + 1) _ (by omega) (by omega) (by omega) h69.1 (by rw [hz, bsI_f h0 (fun q => c72 q.2.1)])) ⟨rfl, rfl, rfl, rfl, rfl, rfl, rfl, trivial⟩
              · skip
                refine jr_ok (fun hO2 => ?_)
                refine jr_aload_n F dX7_holders_75 rfl ?_
                refine jr_getR (t := 20) F dX7_holders_76 fg_X7_57 (Nat.le_of_ble_eq_true rfl) rfl rfl ?_
                refine jr_iload_n F dX7_holders_79 rfl ?_
                refine jr_iload_n F dX7_holders_80 rfl ?_
                refine jr_vI F dX7_holders_81 cv_X7_196 (c_X1_end_20 (by omega) (by omega) (by rw [h69.1.1 1 (by decide) (by decide)]; omega) (by rw [h69.1.2.1]; omega)) (Nat.le_of_ble_eq_true rfl) rfl rfl rfl rfl (Nat.le_of_ble_eq_true rfl) (Nat.le_of_ble_eq_true rfl) rfl (Nat.le_of_ble_eq_true rfl) ?_
                refine jr_ti (b := (spn w s e (dfb b (pw i)) (-1) r side)) (h69.2.1.2 r side hr.1 hr.2 hsd.1 hsd.2) ?_
                have k81 := sps_R hO2 h69.2.1 hr (by omega) hsd
                refine jr_iload F dX7_holders_84 rfl ?_
                refine jr_icmp_eq (tgt := 96) F dX7_holders_86 (by decide) (fun c86 => ?_) (fun c86 => ?_) (by omega) (by omega)
                · skip
                  refine jr_iinc F dX7_holders_96 rfl (Nat.le_of_ble_eq_true rfl) rfl ?_
                  refine jr_goto (tgt := 32) F dX7_holders_99 (by decide) ?_
                  exact jr_sub (ih32 _ (i + 1) _ (by omega) (by omega) (by omega) h69.1 (by rw [hz, bsI_f h0 (fun q => q.2.2 c86)])) ⟨rfl, rfl, rfl, rfl, rfl, rfl, rfl, trivial⟩
                · skip
                  refine jr_iload F dX7_holders_89 rfl ?_
                  refine jr_iload F dX7_holders_91 rfl ?_
                  refine jr_ior F dX7_holders_93 ?_
                  refine jr_top (z := bsI (hbP w s e b r side) (i + 1)) F (by rw [hz]; exact b_orT h0 (by omega) ⟨Classical.byContradiction (fun q => c54 (tst_0.mpr q)), c72, c86⟩) ?_
                  refine jr_istore F dX7_holders_94 (Nat.le_of_ble_eq_true rfl) rfl ?_
                  refine jr_iinc F dX7_holders_96 rfl (Nat.le_of_ble_eq_true rfl) rfl ?_
                  refine jr_goto (tgt := 32) F dX7_holders_99 (by decide) ?_
                  exact jr_sub (ih32 _ (i + 1) _ (by omega) (by omega) (by omega) h69.1 rfl) ⟨rfl, rfl, rfl, rfl, rfl, rfl, rfl, trivial⟩
    exact jr_sub (L32 _ _ 0 0 (Nat.lt_succ_self _) (by omega) (by omega) h7.1 rfl) ⟨rfl, rfl, rfl, rfl, rfl, rfl, rfl, trivial⟩
  · skip
    refine jr_iconst F dX7_holders_13 ?_
    exact jr_iret F dX7_holders_14 (pE_of ⟨by unfold hldw; rw [if_neg c10], h7.1⟩)

set_option maxRecDepth 100000 in
set_option maxHeartbeats 4000000 in
theorem c_X7_held {B : Bs} {w : Wd} {s e r side : Int} (hQ : QI w) (hs : inR s) (he : inR e) (hr : inR r) (hsd : inR side) : Sp (GX B) 7 yX7_held cX7_held 6 (Option.some FieldType.int) [.ref (ga (GX B) (0)), iv (s), iv (e), iv (r), iv (side)] w (pE (fun x u => x = heldw w s e r side ∧ sq w u)) := by
  refine Sp.of (by decide) (Nat.le_of_ble_eq_true rfl) (fun X F => ?_)
  have hB := blB_R hQ.2.2.2.2.1 s e
  have n10 := hQ.2.1.1
  show Jw (GX B) X _ 0 [some (.ref (ga (GX B) (0))), some (iv (s)), some (iv (e)), some (iv (r)), some (iv (side))] [] w
  refine jr_iload_n F dX7_held_0 rfl ?_
  refine jr_iload_n F dX7_held_1 rfl ?_
  refine jr_sI F dX7_held_2 cs_X7_186 (c_X7_refusal (by omega) (by omega)) rfl (Nat.le_of_ble_eq_true rfl) (Nat.le_of_ble_eq_true rfl) rfl (Nat.le_of_ble_eq_true rfl) ?_
  refine jr_ti (b := (refq s e)) rfl ?_
  have rR := refq_R s e
  refine jr_istore F dX7_held_5 (Nat.le_of_ble_eq_true rfl) rfl ?_
  refine jr_iload F dX7_held_7 rfl ?_
  refine jr_if_eq (tgt := 15) F dX7_held_9 (by decide) (fun c9 => ?_) (fun c9 => ?_) (by omega)
  · skip
    have h7 := refq_0 c9
    refine jr_aload_n F dX7_held_15 rfl ?_
    refine jr_getR (t := 1) F dX7_held_16 fg_X7_10 (Nat.le_of_ble_eq_true rfl) rfl rfl ?_
    refine jr_iload_n F dX7_held_19 rfl ?_
    refine jr_vI F dX7_held_20 cv_X7_85 (c_X3_has (by omega)) (Nat.le_of_ble_eq_true rfl) rfl rfl rfl rfl (Nat.le_of_ble_eq_true rfl) (Nat.le_of_ble_eq_true rfl) rfl (Nat.le_of_ble_eq_true rfl) ?_
    refine jr_ifne_b (tgt := 29) F dX7_held_23 (by decide) (fun c23 => ?_) (fun c23 => ?_)
    · skip
      refine jr_iload F dX7_held_29 rfl ?_
      refine jr_iconst F dX7_held_31 ?_
      refine jr_iconst F dX7_held_32 ?_
      refine jr_sI F dX7_held_33 cs_X7_65 (c_X7_within (by omega) (by omega) (by omega)) rfl (Nat.le_of_ble_eq_true rfl) (Nat.le_of_ble_eq_true rfl) rfl (Nat.le_of_ble_eq_true rfl) ?_
      refine jr_ifeq_b (tgt := 55) F dX7_held_36 (by decide) (fun c36 => ?_) (fun c36 => ?_)
      · skip
        refine jr_bipush F dX7_held_55 (by decide) ?_
        exact jr_iret F dX7_held_57 (pE_of ⟨by unfold heldw; rw [if_pos c9, if_neg (fun z => z c23), if_pos c36], sq_r w⟩)
      · skip
        refine jr_aload_n F dX7_held_39 rfl ?_
        refine jr_aload_n F dX7_held_40 rfl ?_
        refine jr_iload_n F dX7_held_41 rfl ?_
        refine jr_iload_n F dX7_held_42 rfl ?_
        refine jr_vE F dX7_held_43 cv_X7_189 (c_lay h7.1 hQ h7.2) (Nat.le_of_ble_eq_true rfl) rfl rfl rfl rfl (Nat.le_of_ble_eq_true rfl) (Nat.le_of_ble_eq_true rfl) rfl (Nat.le_of_ble_eq_true rfl) (fun r43 w43 h43 => ?_)
        rw [h43.1]
        refine jr_iload_n F dX7_held_46 rfl ?_
        refine jr_iload F dX7_held_47 rfl ?_
        refine jr_vE F dX7_held_49 cv_X7_199 (c_X7_holders hQ h43.2 h7.2 (by omega) c23 c36) (Nat.le_of_ble_eq_true rfl) rfl rfl rfl rfl (Nat.le_of_ble_eq_true rfl) (Nat.le_of_ble_eq_true rfl) rfl (Nat.le_of_ble_eq_true rfl) (fun r49 w49 h49 => ?_)
        refine jr_goto (tgt := 57) F dX7_held_52 (by decide) ?_
        exact jr_iret F dX7_held_57 (pE_of ⟨by unfold heldw; rw [if_pos c9, if_neg (fun z => z c23), if_neg (fun z => z c36)]; exact h49.1, h49.2.1⟩)
    · skip
      refine jr_bipush F dX7_held_26 (by decide) ?_
      exact jr_iret F dX7_held_28 (pE_of ⟨by unfold heldw; rw [if_pos c9, if_pos c23], sq_r w⟩)
  · skip
    refine jr_iload F dX7_held_12 rfl ?_
    exact jr_iret F dX7_held_14 (pE_of ⟨by unfold heldw; rw [if_neg c9], sq_r w⟩)

set_option maxRecDepth 100000 in
set_option maxHeartbeats 4000000 in
theorem c_X7_gain {B : Bs} {w u : Wd} {s e b wi o : Int} (hQ : QI w) (hD : LD w u s e) (he : 0 ≤ e ∧ e ≤ 9) (hb : 0 ≤ b ∧ b ≤ 255) (hwi : 0 ≤ wi ∧ wi < w 8 3) : Sp (GX B) 6 yX7_gain cX7_gain 5 (Option.some FieldType.int) [.ref (ga (GX B) (0)), iv (b), iv (e), iv (wi), iv (o)] u (pE (fun x y => x = gnw w s e b wi o ∧ LD w y s e ∧ (0 ≤ o → o ≤ 40000 → -40000 ≤ x ∧ x ≤ 40000))) := by
  refine Sp.of (by decide) (Nat.le_of_ble_eq_true rfl) (fun X F => ?_)
  have n10 := hQ.2.1.1
  have n6 := hQ.2.2.2.2.2.2.1.1
  show Jw (GX B) X _ 0 [some (.ref (ga (GX B) (0))), some (iv (b)), some (iv (e)), some (iv (wi)), some (iv (o))] [] u
  refine jr_aload_n F dX7_gain_0 rfl ?_
  refine jr_getR (t := 8) F dX7_gain_1 fg_X7_25 (Nat.le_of_ble_eq_true rfl) rfl rfl ?_
  refine jr_iload_n F dX7_gain_4 rfl ?_
  refine jr_iload_n F dX7_gain_5 rfl ?_
  refine jr_aload_n F dX7_gain_6 rfl ?_
  refine jr_getR (t := 1) F dX7_gain_7 fg_X7_10 (Nat.le_of_ble_eq_true rfl) rfl rfl ?_
  refine jr_vI F dX7_gain_10 cv_X7_269 (c_wkn hD.1 (by omega) (by rw [hD.1 1 (by decide) (by decide)]; omega) (by omega)) (Nat.le_of_ble_eq_true rfl) rfl rfl rfl rfl (Nat.le_of_ble_eq_true rfl) (Nat.le_of_ble_eq_true rfl) rfl (Nat.le_of_ble_eq_true rfl) ?_
  refine jr_ifeq_b (tgt := 29) F dX7_gain_13 (by decide) (fun c13 => ?_) (fun c13 => ?_)
  · skip
    refine jr_iconst F dX7_gain_29 ?_
    exact jr_iret F dX7_gain_30 (pE_of ⟨by unfold gnw; rw [if_neg (fun q => c13 q.1)], hD, fun _ _ => by omega⟩)
  · skip
    refine jr_aload_n F dX7_gain_16 rfl ?_
    refine jr_getR (t := 20) F dX7_gain_17 fg_X7_57 (Nat.le_of_ble_eq_true rfl) rfl rfl ?_
    refine jr_iload_n F dX7_gain_20 rfl ?_
    refine jr_iload_n F dX7_gain_21 rfl ?_
    refine jr_iconst F dX7_gain_22 ?_
    refine jr_vB F dX7_gain_23 cv_X7_192 (c_qfind hQ hD (by omega) (Or.inr hwi)) (Nat.le_of_ble_eq_true rfl) rfl rfl rfl rfl (Nat.le_of_ble_eq_true rfl) (Nat.le_of_ble_eq_true rfl) rfl (Nat.le_of_ble_eq_true rfl) (fun w23 h23 => ?_)
    refine jr_ifne_b (tgt := 31) F dX7_gain_26 (by decide) (fun c26 => ?_) (fun c26 => ?_)
    · skip
      refine jr_iload F dX7_gain_31 rfl ?_
      refine jr_aload_n F dX7_gain_33 rfl ?_
      refine jr_getR (t := 20) F dX7_gain_34 fg_X7_57 (Nat.le_of_ble_eq_true rfl) rfl rfl ?_
      refine jr_vI F dX7_gain_37 cv_X7_212 (c_X1_openness_20 (by rw [h23.1.1 1 (by decide) (by decide)]; omega) (by rw [h23.1.2.1]; have := hD.2; omega)) (Nat.le_of_ble_eq_true rfl) rfl rfl rfl rfl (Nat.le_of_ble_eq_true rfl) (Nat.le_of_ble_eq_true rfl) rfl (Nat.le_of_ble_eq_true rfl) ?_
      refine jr_ti (b := (opn w s e b wi (w 1 3).toNat)) (by rw [h23.1.1 1 (by decide) (by decide)]; exact opn_e h23.2.1 _ (by omega)) ?_
      refine jr_isub F dX7_gain_40 ?_
      exact jr_iret F dX7_gain_41 (pE_of ⟨by unfold gnw; rw [if_pos ⟨c13, c26⟩], h23.1, fun _ _ => by have := opn_0 h23.2.2.1 (w 1 3).toNat (by omega); omega⟩)
    · skip
      refine jr_iconst F dX7_gain_29 ?_
      exact jr_iret F dX7_gain_30 (pE_of ⟨by unfold gnw; rw [if_neg (fun q => c26 q.2)], h23.1, fun _ _ => by omega⟩)

