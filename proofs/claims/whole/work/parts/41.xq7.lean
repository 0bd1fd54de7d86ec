def orb (a m : Int) : Int := ((a.toNat ||| m.toNat : Nat) : Int)
def anb (a m : Int) : Int := ((a.toNat &&& m.toNat : Nat) : Int)
theorem orb_in {a m k : Int} : inb (orb a m) k ↔ inb a k ∨ inb m k := by
  unfold orb inb
  rw [Int.toNat_natCast, Nat.testBit_or, Bool.or_eq_true]
theorem orb_R {a m : Int} (ha : a ≤ 1023) (hm : m ≤ 1023) : 0 ≤ orb a m ∧ orb a m ≤ 1023 := by
  have h : a.toNat ||| m.toNat < 2 ^ 10 := Nat.or_lt_two_pow (by omega) (by omega)
  unfold orb; omega
theorem anb_R {a m : Int} (ha : 0 ≤ a) : 0 ≤ anb a m ∧ anb a m ≤ a := by
  have h : a.toNat &&& m.toNat ≤ a.toNat := Nat.and_le_left
  unfold anb; omega
theorem anb_0 {a m : Int} : anb a m = 0 ↔ ∀ k : Int, 0 ≤ k → ¬ (inb a k ∧ inb m k) := by
  unfold anb inb
  constructor
  · intro h k _ hk
    have z : a.toNat &&& m.toNat = 0 := by omega
    have q := Nat.testBit_and a.toNat m.toNat k.toNat
    rw [z, Nat.zero_testBit, hk.1, hk.2] at q
    cases q
  · intro h
    have z : a.toNat &&& m.toNat = 0 := by
      apply Nat.eq_of_testBit_eq
      intro k
      rw [Nat.testBit_and, Nat.zero_testBit]
      have y := h (k : Int) (by omega)
      rw [Int.toNat_natCast] at y
      cases p : a.toNat.testBit k
      · rfl
      · cases q : m.toNat.testBit k
        · rfl
        · exact absurd ⟨p, q⟩ y
    omega
theorem pw_in {t k : Int} (ht : 0 ≤ t) (hk : 0 ≤ k) : inb (pw t) k ↔ k = t := by
  unfold pw inb
  rw [Int.toNat_natCast, Nat.testBit_two_pow, decide_eq_true_eq]
  omega
theorem in_0 {k : Int} : ¬ inb 0 k := by
  unfold inb
  rw [show (0 : Int).toNat = 0 from rfl, Nat.zero_testBit]
  exact fun h => by cases h
theorem inb_e {a m : Int} (ha : 0 ≤ a) (hm : 0 ≤ m) (h : ∀ k : Int, 0 ≤ k → (inb a k ↔ inb m k)) : a = m := by
  have z : a.toNat = m.toNat := by
    apply Nat.eq_of_testBit_eq
    intro k
    have y := h (k : Int) (by omega)
    unfold inb at y
    rw [Int.toNat_natCast] at y
    exact Bool.eq_iff_iff.mpr y
  omega
theorem pw_10 {t : Int} (h : t < 10) : 0 ≤ pw t ∧ pw t ≤ 512 := by
  have h1 : (2 : Nat) ^ t.toNat ≤ 2 ^ 9 := Nat.pow_le_pow_right (by omega) (by omega)
  unfold pw
  generalize (2 : Nat) ^ t.toNat = p at h1 ⊢
  omega
theorem b_orb {a m : Int} (ha : 0 ≤ a ∧ a ≤ 1023) (hm : 0 ≤ m ∧ m ≤ 1023) : Int32.ofInt a ||| Int32.ofInt m = Int32.ofInt (orb a m) := b_or (by omega) (by omega)
theorem b_anb {a m : Int} (ha : 0 ≤ a ∧ a ≤ 1023) (hm : 0 ≤ m ∧ m ≤ 1023) : Int32.ofInt a &&& Int32.ofInt m = Int32.ofInt (anb a m) := b_and (by omega) (by omega)
/-- what a believed tie asks of a set of anchored reigns -/
def tcl (w : Wd) (b : Int) (S : Int → Prop) (t : Int) : Prop := inb b t → (tfa w t 3 = -1 → S (tfa w t 1)) ∧ (¬ tfa w t 3 = -1 → (S (tfa w t 1) ↔ S (tfa w t 3)))
/-- what a reign asks of it -/
def rcl (w : Wd) (e : Int) (S : Int → Prop) (r : Int) : Prop := bnd w e r → (S r ↔ S (fa w r 5))
/-- a step on the way to a closed set -/
def stp (K : (Int → Prop) → Int → Prop) (a z n : Int) : Prop := (0 ≤ z ∧ z ≤ 1023) ∧ (∀ k : Int, 0 ≤ k → inb a k → inb z k) ∧ (∀ S : Int → Prop, (∀ t : Int, 0 ≤ t → t < n → K S t) → (∀ k : Int, 0 ≤ k → inb a k → S k) → ∀ k : Int, 0 ≤ k → inb z k → S k) ∧ (z = a → ∀ t : Int, 0 ≤ t → t < n → K (inb a) t)
theorem stp_0 (K : (Int → Prop) → Int → Prop) {a : Int} (h : 0 ≤ a ∧ a ≤ 1023) : stp K a a 0 := ⟨h, fun _ _ h => h, fun _ _ h => h, fun _ t a b => by omega⟩
theorem stp_s {K : (Int → Prop) → Int → Prop} {a z y n : Int} (ha : 0 ≤ a) (h : stp K a z n) (hn : 0 ≤ n) (hy : 0 ≤ y ∧ y ≤ 1023) (hg : ∀ k : Int, 0 ≤ k → inb z k → inb y k) (hs : ∀ S : Int → Prop, K S n → (∀ k : Int, 0 ≤ k → inb z k → S k) → ∀ k : Int, 0 ≤ k → inb y k → S k) (hc : y = z → K (inb z) n) : stp K a y (n + 1) := by
  refine ⟨hy, fun k k0 q => hg k k0 (h.2.1 k k0 q), fun S hK hS k k0 q => hs S (hK n hn (by omega)) (h.2.2.1 S (fun t t0 t1 => hK t t0 (by omega)) hS) k k0 q, fun e t t0 t1 => ?_⟩
  have ez : z = a := inb_e h.1.1 ha (fun k k0 => ⟨fun q => by rw [← e]; exact hg k k0 q, h.2.1 k k0⟩)
  by_cases ht : t = n
  · subst ht
    rw [← ez]
    exact hc (by omega)
  · exact h.2.2.2 ez t t0 (by omega)
theorem stp_k {K : (Int → Prop) → Int → Prop} {a z n : Int} (ha : 0 ≤ a) (h : stp K a z n) (hn : 0 ≤ n) (hc : K (inb z) n) : stp K a z (n + 1) := stp_s ha h hn h.1 (fun _ _ q => q) (fun _ _ q => q) (fun _ => hc)

/-- two reigns join: none of both is anchored, or both become so -/
theorem spr_n {K : (Int → Prop) → Int → Prop} {a z i p q m : Int} (ha : 0 ≤ a) (h : stp K a z i) (i0 : 0 ≤ i) (p0 : 0 ≤ p) (q0 : 0 ≤ q) (pI : ∀ k : Int, 0 ≤ k → (inb m k ↔ k = p ∨ k = q)) (c : anb z m = 0) (hc : (inb z p ↔ inb z q) → K (inb z) i) : stp K a (orb z 0) (i + 1) := by
  have zR := h.1
  have c55 := anb_0.mp c
  refine stp_s ha h i0 (orb_R (by omega) (by omega)) (fun k _ y => orb_in.mpr (Or.inl y)) (fun S _ hS k k0 y => (orb_in.mp y).elim (hS k k0) (fun y => absurd y in_0)) (fun _ => hc ?_)
  have y1 := c55 p p0
  have y2 := c55 q q0
  rw [pI p p0] at y1
  rw [pI q q0] at y2
  exact ⟨fun y => absurd ⟨y, Or.inl rfl⟩ y1, fun y => absurd ⟨y, Or.inr rfl⟩ y2⟩
theorem spr_y {K : (Int → Prop) → Int → Prop} {a z i p q m : Int} (ha : 0 ≤ a) (h : stp K a z i) (i0 : 0 ≤ i) (p0 : 0 ≤ p) (q0 : 0 ≤ q) (mR : 0 ≤ m ∧ m ≤ 1023) (pI : ∀ k : Int, 0 ≤ k → (inb m k ↔ k = p ∨ k = q)) (hs : ∀ S : Int → Prop, K S i → (S p ↔ S q)) (c : (∀ S : Int → Prop, K S i → S p) ∨ ¬ anb z m = 0) (hc : (inb z p ∧ inb z q) → K (inb z) i) : stp K a (orb z m) (i + 1) := by
  have zR := h.1
  refine stp_s ha h i0 (orb_R (by omega) (by omega)) (fun k _ y => orb_in.mpr (Or.inl y)) (fun S hK hS k k0 y => ?_) (fun e => hc ?_)
  · have hq := hs S hK
    have hit : S p ∨ S q := by
      rcases c with c | c
      · exact Or.inl (c S hK)
      · refine Classical.byContradiction (fun no => c (anb_0.mpr (fun k k0 y => ?_)))
        rcases (pI k k0).mp y.2 with z1 | z1
        · exact no (Or.inl (z1 ▸ hS k k0 y.1))
        · exact no (Or.inr (z1 ▸ hS k k0 y.1))
    have both : S p ∧ S q := hit.elim (fun y => ⟨y, hq.mp y⟩) (fun y => ⟨hq.mpr y, y⟩)
    rcases orb_in.mp y with y | y
    · exact hS k k0 y
    · rcases (pI k k0).mp y with z1 | z1
      · rw [z1]; exact both.1
      · rw [z1]; exact both.2
  · have y1 : inb (orb z m) p := orb_in.mpr (Or.inr ((pI p p0).mpr (Or.inl rfl)))
    have y2 : inb (orb z m) q := orb_in.mpr (Or.inr ((pI q q0).mpr (Or.inr rfl)))
    rw [e] at y1 y2
    exact ⟨y1, y2⟩

set_option maxRecDepth 100000 in
set_option maxHeartbeats 4000000 in
theorem c_X3_spreadInLands {B : Bs} {w : Wd} {a e : Int} (hR : RI w) (ha : 0 ≤ a ∧ a ≤ 1023) (he : inR e) : Sp (GX B) 3 yX3_spreadInLands cX3_spreadInLands 7 (Option.some FieldType.int) [.ref (ga (GX B) (1)), iv (a), iv (e)] w (pE (fun x u => stp (rcl w e) a x (w 1 3) ∧ u = w)) := by
  refine Sp.of (by decide) (Nat.le_of_ble_eq_true rfl) (fun X F => ?_)
  have n10 := hR.1
  show Jw (GX B) X _ 0 [some (.ref (ga (GX B) (1))), some (iv (a)), some (iv (e))] [] w
  refine jr_iload_n F dX3_spreadInLands_0 rfl ?_
  refine jr_istore_n F dX3_spreadInLands_1 (Nat.le_of_ble_eq_true rfl) rfl ?_
  refine jr_iconst F dX3_spreadInLands_2 ?_
  refine jr_istore F dX3_spreadInLands_3 (Nat.le_of_ble_eq_true rfl) rfl ?_
  have L5 : ∀ (fuel : Nat) (i : Int) (z : Int), (w 1 3 - i).toNat < fuel → (0 ≤ i) → (i ≤ w 1 3) → (stp (rcl w e) a z i) → Jw (GX B) X (pE (fun x u => stp (rcl w e) a x (w 1 3) ∧ u = w)) 5 [some (.ref (ga (GX B) 1)), some (iv a), some (iv e), some (iv z), some (iv i)] [] w := by
    intro fuel
    induction fuel with
    | zero => intro i z hfuel; exact absurd hfuel (Nat.not_lt_zero _)
    | succ fuel ih5 =>
        intro i z hfuel i0 i1 hz
        have zR := hz.1
        refine jr_iload F dX3_spreadInLands_5 rfl ?_
        refine jr_aload_n F dX3_spreadInLands_7 rfl ?_
        refine jr_getIx F (w 1 3) dX3_spreadInLands_8 fg_X3_21 (Nat.le_of_ble_eq_true rfl) rfl rfl rfl (fun q8 => ?_)
        refine jr_icmp_ge (tgt := 72) F dX3_spreadInLands_11 (by decide) (fun c11 => ?_) (fun c11 => ?_) (by omega) (by omega)
        · skip
          refine jr_iload_n F dX3_spreadInLands_72 rfl ?_
          exact jr_iret F dX3_spreadInLands_73 (pE_of ⟨by rw [← show i = w 1 3 by omega]; exact hz, rfl⟩)
        · skip
          have rr := hR.2 i i0 (by omega)
          refine jr_aload_n F dX3_spreadInLands_14 rfl ?_
          refine jr_iload F dX3_spreadInLands_15 rfl ?_
          refine jr_iconst F dX3_spreadInLands_17 ?_
          refine jr_vI F dX3_spreadInLands_18 cv_X3_44 (c_X3_fact (by omega)) (Nat.le_of_ble_eq_true rfl) rfl rfl rfl rfl (Nat.le_of_ble_eq_true rfl) (Nat.le_of_ble_eq_true rfl) rfl (Nat.le_of_ble_eq_true rfl) ?_
          refine jr_istore F dX3_spreadInLands_21 (Nat.le_of_ble_eq_true rfl) rfl ?_
          refine jr_iload F dX3_spreadInLands_23 rfl ?_
          refine jr_iconst F dX3_spreadInLands_25 ?_
          refine jr_icmp_eq (tgt := 66) F dX3_spreadInLands_26 (by decide) (fun c26 => ?_) (fun c26 => ?_) (by omega) (by omega)
          · skip
            refine jr_iinc F dX3_spreadInLands_66 rfl (Nat.le_of_ble_eq_true rfl) rfl ?_
            refine jr_goto (tgt := 5) F dX3_spreadInLands_69 (by decide) ?_
            exact jr_sub (ih5 (i + 1) _ (by omega) (by omega) (by omega) (stp_k ha.1 hz i0 (fun q => absurd c26 q.2))) ⟨rfl, rfl, rfl, rfl, rfl, trivial⟩
          · skip
            refine jr_aload_n F dX3_spreadInLands_29 rfl ?_
            refine jr_iload F dX3_spreadInLands_30 rfl ?_
            refine jr_iload_n F dX3_spreadInLands_32 rfl ?_
            refine jr_vI F dX3_spreadInLands_33 cv_X3_55 (c_X3_isKnown (by omega) (by omega) (by omega)) (Nat.le_of_ble_eq_true rfl) rfl rfl rfl rfl (Nat.le_of_ble_eq_true rfl) (Nat.le_of_ble_eq_true rfl) rfl (Nat.le_of_ble_eq_true rfl) ?_
            refine jr_ifeq_b (tgt := 66) F dX3_spreadInLands_36 (by decide) (fun c36 => ?_) (fun c36 => ?_)
            · skip
              refine jr_iinc F dX3_spreadInLands_66 rfl (Nat.le_of_ble_eq_true rfl) rfl ?_
              refine jr_goto (tgt := 5) F dX3_spreadInLands_69 (by decide) ?_
              exact jr_sub (ih5 (i + 1) _ (by omega) (by omega) (by omega) (stp_k ha.1 hz i0 (fun q => absurd q.1 c36))) ⟨rfl, rfl, rfl, rfl, rfl, trivial⟩
            · skip
              have pa := pw_10 (t := i) (by omega)
              have pb := pw_10 (t := fa w i 5) (by omega)
              have pR := orb_R (a := pw i) (m := pw (fa w i 5)) (by omega) (by omega)
              have pI : ∀ k : Int, 0 ≤ k → (inb (orb (pw i) (pw (fa w i 5))) k ↔ k = i ∨ k = fa w i 5) := fun k k0 => by rw [orb_in, pw_in i0 k0, pw_in (by omega) k0]
              refine jr_iconst F dX3_spreadInLands_39 ?_
              refine jr_iload F dX3_spreadInLands_40 rfl ?_
              refine jr_ishl F dX3_spreadInLands_42 ?_
              refine jr_top (z := pw i) F (b_shl1 (by omega)) ?_
              refine jr_iconst F dX3_spreadInLands_43 ?_
              refine jr_iload F dX3_spreadInLands_44 rfl ?_
              refine jr_ishl F dX3_spreadInLands_46 ?_
              refine jr_top (z := pw (fa w i 5)) F (b_shl1 (by omega)) ?_
              refine jr_ior F dX3_spreadInLands_47 ?_
              refine jr_top (z := (orb (pw i) (pw (fa w i 5)))) F (b_orb (by omega) (by omega)) ?_
              refine jr_istore F dX3_spreadInLands_48 (Nat.le_of_ble_eq_true rfl) rfl ?_
              refine jr_iload_n F dX3_spreadInLands_50 rfl ?_
              refine jr_iload_n F dX3_spreadInLands_51 rfl ?_
              refine jr_iload F dX3_spreadInLands_52 rfl ?_
              refine jr_iand F dX3_spreadInLands_54 ?_
              refine jr_top (z := anb z (orb (pw i) (pw (fa w i 5)))) F (b_anb (by omega) (by omega)) ?_
              refine jr_if_eq (tgt := 63) F dX3_spreadInLands_55 (by decide) (fun c55 => ?_) (fun c55 => ?_) (by have := anb_R (a := z) (m := (orb (pw i) (pw (fa w i 5)))) (by omega); omega)
              · skip
                refine jr_iconst F dX3_spreadInLands_63 ?_
                have H1 : stp (rcl w e) a (orb z 0) (i + 1) := spr_n ha.1 hz i0 i0 (show 0 ≤ fa w i 5 by omega) pI c55 (fun y _ => y)
                refine jr_ior F dX3_spreadInLands_64 ?_
                refine jr_top (z := orb z 0) F (b_orb (by omega) (by omega)) ?_
                refine jr_istore_n F dX3_spreadInLands_65 (Nat.le_of_ble_eq_true rfl) rfl ?_
                refine jr_iinc F dX3_spreadInLands_66 rfl (Nat.le_of_ble_eq_true rfl) rfl ?_
                refine jr_goto (tgt := 5) F dX3_spreadInLands_69 (by decide) ?_
                exact jr_sub (ih5 (i + 1) _ (by omega) (by omega) (by omega) H1) ⟨rfl, rfl, rfl, rfl, rfl, trivial⟩
              · skip
                refine jr_iload F dX3_spreadInLands_58 rfl ?_
                refine jr_goto (tgt := 64) F dX3_spreadInLands_60 (by decide) ?_
                have H1 : stp (rcl w e) a (orb z (orb (pw i) (pw (fa w i 5)))) (i + 1) := spr_y ha.1 hz i0 i0 (show 0 ≤ fa w i 5 by omega) pR pI (fun S hK => hK ⟨by unfold knw; omega, c26⟩) (Or.inr c55) (fun y _ => ⟨fun _ => y.2, fun _ => y.1⟩)
                refine jr_ior F dX3_spreadInLands_64 ?_
                refine jr_top (z := orb z (orb (pw i) (pw (fa w i 5)))) F (b_orb (by omega) (by omega)) ?_
                refine jr_istore_n F dX3_spreadInLands_65 (Nat.le_of_ble_eq_true rfl) rfl ?_
                refine jr_iinc F dX3_spreadInLands_66 rfl (Nat.le_of_ble_eq_true rfl) rfl ?_
                refine jr_goto (tgt := 5) F dX3_spreadInLands_69 (by decide) ?_
                exact jr_sub (ih5 (i + 1) _ (by omega) (by omega) (by omega) H1) ⟨rfl, rfl, rfl, rfl, rfl, trivial⟩
  exact jr_sub (L5 _ 0 a (Nat.lt_succ_self _) (by omega) (by omega) (stp_0 _ ha)) ⟨rfl, rfl, rfl, rfl, rfl, trivial⟩

/-- a sky or a ring names no second reign -/
def TN (w : Wd) : Prop := ∀ t : Int, 0 ≤ t → t < w 5 3 → (tfa w t 0 = 1 ∨ tfa w t 0 = 2) → tfa w t 3 = -1

set_option maxRecDepth 100000 in
set_option maxHeartbeats 4000000 in
theorem c_X6_spread_5 {B : Bs} {w : Wd} {a b : Int} (hT : TI w) (hN : TN w) (h10 : w 1 3 ≤ 10) (ha : 0 ≤ a ∧ a ≤ 1023) (hb : 0 ≤ b ∧ b ≤ 1000) : Sp (GX B) 3 yX6_spread cX6_spread 7 (Option.some FieldType.int) [.ref (ga (GX B) (5)), iv (a), iv (b)] w (pE (fun x u => stp (tcl w b) a x (w 5 3) ∧ u = w)) := by
  refine Sp.of (by decide) (Nat.le_of_ble_eq_true rfl) (fun X F => ?_)
  have n8 := hT.1
  show Jw (GX B) X _ 0 [some (.ref (ga (GX B) (5))), some (iv (a)), some (iv (b))] [] w
  refine jr_iload_n F dX6_spread_0 rfl ?_
  refine jr_istore_n F dX6_spread_1 (Nat.le_of_ble_eq_true rfl) rfl ?_
  refine jr_iconst F dX6_spread_2 ?_
  refine jr_istore F dX6_spread_3 (Nat.le_of_ble_eq_true rfl) rfl ?_
  have L5 : ∀ (fuel : Nat) (i : Int) (z : Int), (w 5 3 - i).toNat < fuel → (0 ≤ i) → (i ≤ w 5 3) → (stp (tcl w b) a z i) → Jw (GX B) X (pE (fun x u => stp (tcl w b) a x (w 5 3) ∧ u = w)) 5 [some (.ref (ga (GX B) 5)), some (iv a), some (iv b), some (iv z), some (iv i)] [] w := by
    intro fuel
    induction fuel with
    | zero => intro i z hfuel; exact absurd hfuel (Nat.not_lt_zero _)
    | succ fuel ih5 =>
        intro i z hfuel i0 i1 hz
        have zR := hz.1
        refine jr_iload F dX6_spread_5 rfl ?_
        refine jr_aload_n F dX6_spread_7 rfl ?_
        refine jr_getIx F (w 5 3) dX6_spread_8 fg_X6_26 (Nat.le_of_ble_eq_true rfl) rfl rfl rfl (fun q8 => ?_)
        refine jr_icmp_ge (tgt := 89) F dX6_spread_11 (by decide) (fun c11 => ?_) (fun c11 => ?_) (by omega) (by omega)
        · skip
          refine jr_iload_n F dX6_spread_89 rfl ?_
          exact jr_iret F dX6_spread_90 (pE_of ⟨by rw [← show i = w 5 3 by omega]; exact hz, rfl⟩)
        · skip
          refine jr_iload_n F dX6_spread_14 rfl ?_
          refine jr_iconst F dX6_spread_15 ?_
          refine jr_iload F dX6_spread_16 rfl ?_
          refine jr_ishl F dX6_spread_18 ?_
          refine jr_iand F dX6_spread_19 ?_
          refine jr_top (z := tst b i) F (b_tst (by omega) (by omega)) ?_
          refine jr_if_ne (tgt := 26) F dX6_spread_20 (by decide) (fun c20 => ?_) (fun c20 => ?_) (by have := tst_R (b := b) (t := i) (by omega); omega)
          · skip
            have tt := hT.2 i i0 (by omega)
            have nn := hN i i0 (by omega)
            have hB : inb b i := (Classical.byContradiction (fun q => c20 (tst_0.mpr q)))
            have p1 := pw_10 (t := tfa w i 1) (by omega)
            refine jr_aload_n F dX6_spread_26 rfl ?_
            refine jr_iload F dX6_spread_27 rfl ?_
            refine jr_iconst F dX6_spread_29 ?_
            refine jr_vI F dX6_spread_30 cv_X6_44 (c_X6_fact_5 (by omega)) (Nat.le_of_ble_eq_true rfl) rfl rfl rfl rfl (Nat.le_of_ble_eq_true rfl) (Nat.le_of_ble_eq_true rfl) rfl (Nat.le_of_ble_eq_true rfl) ?_
            refine jr_istore F dX6_spread_33 (Nat.le_of_ble_eq_true rfl) rfl ?_
            refine jr_iconst F dX6_spread_35 ?_
            refine jr_aload_n F dX6_spread_36 rfl ?_
            refine jr_iload F dX6_spread_37 rfl ?_
            refine jr_iconst F dX6_spread_39 ?_
            refine jr_vI F dX6_spread_40 cv_X6_44 (c_X6_fact_5 (by omega)) (Nat.le_of_ble_eq_true rfl) rfl rfl rfl rfl (Nat.le_of_ble_eq_true rfl) (Nat.le_of_ble_eq_true rfl) rfl (Nat.le_of_ble_eq_true rfl) ?_
            refine jr_ishl F dX6_spread_43 ?_
            refine jr_top (z := pw (tfa w i 1)) F (b_shl1 (by omega)) ?_
            refine jr_iload F dX6_spread_44 rfl ?_
            refine jr_iconst F dX6_spread_46 ?_
            refine jr_icmp_ne (tgt := 54) F dX6_spread_47 (by decide) (fun c47 => ?_) (fun c47 => ?_) (by omega) (by omega)
            · skip
              have r3 : 0 ≤ tfa w i 3 ∧ tfa w i 3 < w 1 3 := by omega
              have p3 := pw_10 (t := tfa w i 3) (by omega)
              have pR := orb_R (a := pw (tfa w i 1)) (m := pw (tfa w i 3)) (by omega) (by omega)
              have pI : ∀ k : Int, 0 ≤ k → (inb (orb (pw (tfa w i 1)) (pw (tfa w i 3))) k ↔ k = (tfa w i 1) ∨ k = (tfa w i 3)) := fun k k0 => by rw [orb_in, pw_in (by omega) k0, pw_in (by omega) k0]
              refine jr_iconst F dX6_spread_54 ?_
              refine jr_iload F dX6_spread_55 rfl ?_
              refine jr_ishl F dX6_spread_57 ?_
              refine jr_top (z := pw (tfa w i 3)) F (b_shl1 (by omega)) ?_
              refine jr_ior F dX6_spread_58 ?_
              refine jr_top (z := (orb (pw (tfa w i 1)) (pw (tfa w i 3)))) F (b_orb (by omega) (by omega)) ?_
              refine jr_istore F dX6_spread_59 (Nat.le_of_ble_eq_true rfl) rfl ?_
              refine jr_iload_n F dX6_spread_61 rfl ?_
              refine jr_iload F dX6_spread_62 rfl ?_
              refine jr_iconst F dX6_spread_64 ?_
              refine jr_icmp_eq (tgt := 75) F dX6_spread_65 (by decide) (fun c65 => ?_) (fun c65 => ?_) (by omega) (by omega)
              · exact absurd c65 c47
              · skip
                refine jr_iload_n F dX6_spread_68 rfl ?_
                refine jr_iload F dX6_spread_69 rfl ?_
                refine jr_iand F dX6_spread_71 ?_
                refine jr_top (z := anb z (orb (pw (tfa w i 1)) (pw (tfa w i 3)))) F (b_anb (by omega) (by omega)) ?_
                refine jr_if_eq (tgt := 80) F dX6_spread_72 (by decide) (fun c72 => ?_) (fun c72 => ?_) (by have := anb_R (a := z) (m := (orb (pw (tfa w i 1)) (pw (tfa w i 3)))) (by omega); omega)
                · skip
                  refine jr_iconst F dX6_spread_80 ?_
                  have H1 : stp (tcl w b) a (orb z 0) (i + 1) := spr_n ha.1 hz i0 (show 0 ≤ tfa w i 1 by omega) (show 0 ≤ tfa w i 3 by omega) pI c72 (fun y _ => ⟨fun h => absurd h c47, fun _ => y⟩)
                  refine jr_ior F dX6_spread_81 ?_
                  refine jr_top (z := orb z 0) F (b_orb (by omega) (by omega)) ?_
                  refine jr_istore_n F dX6_spread_82 (Nat.le_of_ble_eq_true rfl) rfl ?_
                  refine jr_iinc F dX6_spread_83 rfl (Nat.le_of_ble_eq_true rfl) rfl ?_
                  refine jr_goto (tgt := 5) F dX6_spread_86 (by decide) ?_
                  exact jr_sub (ih5 (i + 1) _ (by omega) (by omega) (by omega) H1) ⟨rfl, rfl, rfl, rfl, rfl, trivial⟩
                · skip
                  refine jr_iload F dX6_spread_75 rfl ?_
                  refine jr_goto (tgt := 81) F dX6_spread_77 (by decide) ?_
                  have H1 : stp (tcl w b) a (orb z (orb (pw (tfa w i 1)) (pw (tfa w i 3)))) (i + 1) := spr_y ha.1 hz i0 (show 0 ≤ tfa w i 1 by omega) (show 0 ≤ tfa w i 3 by omega) pR pI (fun S hK => (hK hB).2 c47) (Or.inr c72) (fun y _ => ⟨fun h => absurd h c47, fun _ => ⟨fun _ => y.2, fun _ => y.1⟩⟩)
                  refine jr_ior F dX6_spread_81 ?_
                  refine jr_top (z := orb z (orb (pw (tfa w i 1)) (pw (tfa w i 3)))) F (b_orb (by omega) (by omega)) ?_
                  refine jr_istore_n F dX6_spread_82 (Nat.le_of_ble_eq_true rfl) rfl ?_
                  refine jr_iinc F dX6_spread_83 rfl (Nat.le_of_ble_eq_true rfl) rfl ?_
                  refine jr_goto (tgt := 5) F dX6_spread_86 (by decide) ?_
                  exact jr_sub (ih5 (i + 1) _ (by omega) (by omega) (by omega) H1) ⟨rfl, rfl, rfl, rfl, rfl, trivial⟩
            · skip
              have pR := orb_R (a := pw (tfa w i 1)) (m := 0) (by omega) (by omega)
              have pI : ∀ k : Int, 0 ≤ k → (inb (orb (pw (tfa w i 1)) 0) k ↔ k = (tfa w i 1) ∨ k = (tfa w i 1)) := fun k k0 => by rw [orb_in, pw_in (by omega) k0]; exact ⟨fun q => q.elim Or.inl (fun y => absurd y in_0), fun q => Or.inl (q.elim id id)⟩
              refine jr_iconst F dX6_spread_50 ?_
              refine jr_goto (tgt := 58) F dX6_spread_51 (by decide) ?_
              refine jr_ior F dX6_spread_58 ?_
              refine jr_top (z := (orb (pw (tfa w i 1)) 0)) F (b_orb (by omega) (by omega)) ?_
              refine jr_istore F dX6_spread_59 (Nat.le_of_ble_eq_true rfl) rfl ?_
              refine jr_iload_n F dX6_spread_61 rfl ?_
              refine jr_iload F dX6_spread_62 rfl ?_
              refine jr_iconst F dX6_spread_64 ?_
              refine jr_icmp_eq (tgt := 75) F dX6_spread_65 (by decide) (fun c65 => ?_) (fun c65 => ?_) (by omega) (by omega)
              · skip
                refine jr_iload F dX6_spread_75 rfl ?_
                refine jr_goto (tgt := 81) F dX6_spread_77 (by decide) ?_
                have H1 : stp (tcl w b) a (orb z (orb (pw (tfa w i 1)) 0)) (i + 1) := spr_y ha.1 hz i0 (show 0 ≤ tfa w i 1 by omega) (show 0 ≤ tfa w i 1 by omega) pR pI (fun S hK => Iff.rfl) (Or.inl (fun S hK => (hK hB).1 c47)) (fun y _ => ⟨fun _ => y.1, fun h => absurd c47 h⟩)
                refine jr_ior F dX6_spread_81 ?_
                refine jr_top (z := orb z (orb (pw (tfa w i 1)) 0)) F (b_orb (by omega) (by omega)) ?_
                refine jr_istore_n F dX6_spread_82 (Nat.le_of_ble_eq_true rfl) rfl ?_
                refine jr_iinc F dX6_spread_83 rfl (Nat.le_of_ble_eq_true rfl) rfl ?_
                refine jr_goto (tgt := 5) F dX6_spread_86 (by decide) ?_
                exact jr_sub (ih5 (i + 1) _ (by omega) (by omega) (by omega) H1) ⟨rfl, rfl, rfl, rfl, rfl, trivial⟩
              · exact absurd c47 c65
          · skip
            refine jr_goto (tgt := 83) F dX6_spread_23 (by decide) ?_
            refine jr_iinc F dX6_spread_83 rfl (Nat.le_of_ble_eq_true rfl) rfl ?_
            refine jr_goto (tgt := 5) F dX6_spread_86 (by decide) ?_
            exact jr_sub (ih5 (i + 1) _ (by omega) (by omega) (by omega) (stp_k ha.1 hz i0 (fun q => absurd q (tst_0.mp c20)))) ⟨rfl, rfl, rfl, rfl, rfl, trivial⟩
  exact jr_sub (L5 _ 0 a (Nat.lt_succ_self _) (by omega) (by omega) (stp_0 _ ha)) ⟨rfl, rfl, rfl, rfl, rfl, trivial⟩

