theorem bcx_mono {a m : Int} : ∀ n : Nat, (∀ k : Nat, k < n → a.toNat.testBit k = true → m.toNat.testBit k = true) → bcx a n ≤ bcx m n ∧ (bcx a n = bcx m n → ∀ k : Nat, k < n → a.toNat.testBit k = m.toNat.testBit k)
  | 0, _ => ⟨Int.le_refl _, fun _ k hk => absurd hk (Nat.not_lt_zero _)⟩
  | n + 1, h => by
    have ih := bcx_mono n (fun k hk => h k (by omega))
    have hn := h n (by omega)
    rw [bcx, bcx]
    cases p : a.toNat.testBit n
    · cases q : m.toNat.testBit n
      · simp only [Bool.false_eq_true, if_false]
        refine ⟨by omega, fun e k hk => ?_⟩
        by_cases c : k = n
        · rw [c, p, q]
        · exact ih.2 (by omega) k (by omega)
      · simp only [Bool.false_eq_true, if_false, if_true]
        exact ⟨by omega, fun e => by omega⟩
    · rw [hn p]
      simp only [if_true]
      refine ⟨by omega, fun e k hk => ?_⟩
      by_cases c : k = n
      · rw [c, p, hn p]
      · exact ih.2 (by omega) k (by omega)
theorem bcx_lt {a m : Int} (ha : 0 ≤ a ∧ a ≤ 1023) (hm : 0 ≤ m ∧ m ≤ 1023) (h : ∀ k : Int, 0 ≤ k → inb a k → inb m k) (hn : ¬ m = a) : bcx a 10 + 1 ≤ bcx m 10 := by
  have z := bcx_mono (a := a) (m := m) 10 (fun k _ q => h (k : Int) (by omega) (by unfold inb; rw [Int.toNat_natCast]; exact q))
  have ne : ¬ bcx a 10 = bcx m 10 := by
    intro e
    refine hn (inb_e hm.1 ha.1 (fun k k0 => ?_))
    unfold inb
    by_cases c : k.toNat < 10
    · rw [z.2 e k.toNat c]
    · have p : (2 : Nat) ^ 10 ≤ 2 ^ k.toNat := Nat.pow_le_pow_right (by omega) (by omega)
      rw [Nat.testBit_lt_two_pow (x := m.toNat) (by omega), Nat.testBit_lt_two_pow (x := a.toNat) (by omega)]
  omega
/-- anchored: in every closed set -/
def anc (w : Wd) (b e k : Int) : Prop := ∀ S : Int → Prop, (∀ t : Int, 0 ≤ t → t < w 5 3 → tcl w b S t) → (∀ r : Int, 0 ≤ r → r < w 1 3 → rcl w e S r) → S k
noncomputable def flow (w : Wd) (b e : Int) : Int := bsI (fun k => fa w k 4 ≤ e ∧ ¬ anc w b e k) (w 1 3)
theorem anc_s {w : Wd} {b e z x y : Int} (hs : ∀ k : Int, 0 ≤ k → inb z k → anc w b e k) (h1 : stp (tcl w b) z x (w 5 3)) (h2 : stp (rcl w e) x y (w 1 3)) : ∀ k : Int, 0 ≤ k → inb y k → anc w b e k := by
  intro k k0 q S hT hR
  exact h2.2.2.1 S hR (h1.2.2.1 S hT (fun j j0 p => hs j j0 p S hT hR)) k k0 q
theorem anc_c {w : Wd} {b e z x : Int} (hz : 0 ≤ z) (h1 : stp (tcl w b) z x (w 5 3)) (h2 : stp (rcl w e) x z (w 1 3)) (k : Int) (q : anc w b e k) : inb z k := by
  have ex : x = z := inb_e h1.1.1 hz (fun k k0 => ⟨h2.2.1 k k0, h1.2.1 k k0⟩)
  subst ex
  exact q _ (h1.2.2.2 rfl) (h2.2.2.2 rfl)
theorem flow_e {w : Wd} {b e z : Int} (h1 : ∀ k : Int, 0 ≤ k → inb z k → anc w b e k) (h2 : ∀ k : Int, anc w b e k → inb z k) (h3 : w 1 3 ≤ 10) : dfb (bsI (fun k => fa w k 4 ≤ e) (w 1 3)) z = flow w b e := by
  have b1 := bsI_R10 (fun k => fa w k 4 ≤ e) h3
  have b2 := bsI_R10 (fun k => fa w k 4 ≤ e ∧ ¬ anc w b e k) h3
  refine inb_e (dfb_le _ b1.1).1 b2.1 (fun k k0 => ?_)
  rw [dfb_in]
  unfold flow inb
  rw [bsI_bit k0, bsI_bit k0]
  constructor
  · rintro ⟨⟨p, q⟩, n⟩
    exact ⟨p, q, fun a => n (h2 k a)⟩
  · rintro ⟨p, q, n⟩
    exact ⟨⟨p, q⟩, fun a => n (h1 k k0 a)⟩
theorem sq_flow {w u : Wd} (h : sq w u) : flow u = flow w := by
  have e : anc u = anc w := by
    funext b e k
    unfold anc tcl rcl
    rw [cell_bnd (h 1 (by decide) (by decide)) (h 2 (by decide) (by decide)), sq_fa h, sq_tfa h, h 1 (by decide) (by decide), h 5 (by decide) (by decide)]
  funext b x
  unfold flow
  rw [e, sq_fa h, h 1 (by decide) (by decide)]
theorem sq_TN {w u : Wd} (h : sq w u) (g : TN w) : TN u := by unfold TN; rw [sq_tfa h, h 5 (by decide) (by decide)]; exact g
noncomputable def flqw (w : Wd) (s e : Int) : Int := if refq s e = 0 then flow w (blB w s e) e else refq s e

set_option maxRecDepth 100000 in
set_option maxHeartbeats 4000000 in
theorem c_X7_afloat {B : Bs} {w : Wd} {b e : Int} (hR : RI w) (hT : TI w) (hN : TN w) (hb : 0 ≤ b ∧ b ≤ 255) (he : 0 ≤ e ∧ e ≤ 9) : Sp (GX B) 4 yX7_afloat cX7_afloat 6 (Option.some FieldType.int) [.ref (ga (GX B) (0)), iv (b), iv (e)] w (pE (fun x u => x = flow w b e ∧ u = w)) := by
  refine Sp.of (by decide) (Nat.le_of_ble_eq_true rfl) (fun X F => ?_)
  have n10 := hR.1
  show Jw (GX B) X _ 0 [some (.ref (ga (GX B) (0))), some (iv (b)), some (iv (e))] [] w
  refine jr_iconst F dX7_afloat_0 ?_
  refine jr_istore_n F dX7_afloat_1 (Nat.le_of_ble_eq_true rfl) rfl ?_
  refine jr_iconst F dX7_afloat_2 ?_
  refine jr_istore F dX7_afloat_3 (Nat.le_of_ble_eq_true rfl) rfl ?_
  have L5 : ∀ (fuel : Nat) (i : Int) (z : Int), (11 - i).toNat < fuel → (0 ≤ i) → (i ≤ 11) → (0 ≤ z ∧ z ≤ 1023) → (∀ k : Int, 0 ≤ k → inb z k → anc w b e k) → (i ≤ bcx z 10) → Jw (GX B) X (pE (fun x u => x = flow w b e ∧ u = w)) 5 [some (.ref (ga (GX B) 0)), some (iv b), some (iv e), some (iv z), some (iv i)] [] w := by
    intro fuel
    induction fuel with
    | zero => intro i z hfuel; exact absurd hfuel (Nat.not_lt_zero _)
    | succ fuel ih5 =>
        intro i z hfuel i0 i1 zR hs hc
        refine jr_iload F dX7_afloat_5 rfl ?_
        refine jr_bipush F dX7_afloat_7 (by decide) ?_
        refine jr_icmp_gt (tgt := 48) F dX7_afloat_9 (by decide) (fun c9 => ?_) (fun c9 => ?_) (by omega) (by omega)
        · have := bcx_R z 10; omega
        · skip
          refine jr_iload_n F dX7_afloat_12 rfl ?_
          refine jr_istore F dX7_afloat_13 (Nat.le_of_ble_eq_true rfl) rfl ?_
          refine jr_aload_n F dX7_afloat_15 rfl ?_
          refine jr_getR (t := 1) F dX7_afloat_16 fg_X7_10 (Nat.le_of_ble_eq_true rfl) rfl rfl ?_
          refine jr_aload_n F dX7_afloat_19 rfl ?_
          refine jr_getR (t := 5) F dX7_afloat_20 fg_X7_21 (Nat.le_of_ble_eq_true rfl) rfl rfl ?_
          refine jr_iload_n F dX7_afloat_23 rfl ?_
          refine jr_iload_n F dX7_afloat_24 rfl ?_
          refine jr_vE F dX7_afloat_25 cv_X7_281 (c_X6_spread_5 hT hN (by omega) zR (by omega)) (Nat.le_of_ble_eq_true rfl) rfl rfl rfl rfl (Nat.le_of_ble_eq_true rfl) (Nat.le_of_ble_eq_true rfl) rfl (Nat.le_of_ble_eq_true rfl) (fun r25 w25 h25 => ?_)
          obtain ⟨s25, z25⟩ := h25
          rw [z25]
          refine jr_iload_n F dX7_afloat_28 rfl ?_
          refine jr_vE F dX7_afloat_29 cv_X7_284 (c_X3_spreadInLands hR s25.1 (by omega)) (Nat.le_of_ble_eq_true rfl) rfl rfl rfl rfl (Nat.le_of_ble_eq_true rfl) (Nat.le_of_ble_eq_true rfl) rfl (Nat.le_of_ble_eq_true rfl) (fun r29 w29 h29 => ?_)
          obtain ⟨s29, z29⟩ := h29
          rw [z29]
          refine jr_istore_n F dX7_afloat_32 (Nat.le_of_ble_eq_true rfl) rfl ?_
          refine jr_iload_n F dX7_afloat_33 rfl ?_
          refine jr_iload F dX7_afloat_34 rfl ?_
          refine jr_icmp_ne (tgt := 42) F dX7_afloat_36 (by decide) (fun c36 => ?_) (fun c36 => ?_) (by have := s29.1; omega) (by omega)
          · skip
            refine jr_iinc F dX7_afloat_42 rfl (Nat.le_of_ble_eq_true rfl) rfl ?_
            refine jr_goto (tgt := 5) F dX7_afloat_45 (by decide) ?_
            exact jr_sub (ih5 (i + 1) r29 (by omega) (by omega) (by omega) s29.1 (anc_s hs s25 s29) (by have := bcx_lt zR s29.1 (fun k k0 q => s29.2.1 k k0 (s25.2.1 k k0 q)) c36; omega)) ⟨rfl, rfl, rfl, rfl, rfl, trivial⟩
          · skip
            refine jr_goto (tgt := 48) F dX7_afloat_39 (by decide) ?_
            have kR := bsI_R10 (fun k => fa w k 4 ≤ e) (i := w 1 3) (by omega)
            refine jr_aload_n F dX7_afloat_48 rfl ?_
            refine jr_getR (t := 1) F dX7_afloat_49 fg_X7_10 (Nat.le_of_ble_eq_true rfl) rfl rfl ?_
            refine jr_iload_n F dX7_afloat_52 rfl ?_
            refine jr_vI F dX7_afloat_53 cv_X7_287 (c_X3_knownBits (by omega) (by omega)) (Nat.le_of_ble_eq_true rfl) rfl rfl rfl rfl (Nat.le_of_ble_eq_true rfl) (Nat.le_of_ble_eq_true rfl) rfl (Nat.le_of_ble_eq_true rfl) ?_
            refine jr_iload_n F dX7_afloat_56 rfl ?_
            refine jr_iconst F dX7_afloat_57 ?_
            refine jr_ixor F dX7_afloat_58 ?_
            refine jr_iand F dX7_afloat_59 ?_
            refine jr_top (z := flow w b e) F (by rw [b_andn (by omega) (by have := s29.1; omega), c36, flow_e hs (fun k q => anc_c zR.1 s25 (c36 ▸ s29) k q) (by omega)]) ?_
            exact jr_iret F dX7_afloat_60 (pE_of ⟨rfl, rfl⟩)
  exact jr_sub (L5 _ 0 0 (Nat.lt_succ_self _) (by omega) (by omega) (by omega) (fun k _ q => absurd q in_0) (bcx_R 0 10).1) ⟨rfl, rfl, rfl, rfl, rfl, trivial⟩

set_option maxRecDepth 100000 in
set_option maxHeartbeats 4000000 in
theorem c_X7_floats {B : Bs} {w : Wd} {s e : Int} (hQ : QI w) (hN : TN w) (hs : inR s) (he : inR e) : Sp (GX B) 7 yX7_floats cX7_floats 4 (Option.some FieldType.int) [.ref (ga (GX B) (0)), iv (s), iv (e)] w (pE (fun x u => x = flqw w s e ∧ sq w u)) := by
  refine Sp.of (by decide) (Nat.le_of_ble_eq_true rfl) (fun X F => ?_)
  have hB := blB_R hQ.2.2.2.2.1 s e
  show Jw (GX B) X _ 0 [some (.ref (ga (GX B) (0))), some (iv (s)), some (iv (e))] [] w
  refine jr_iload_n F dX7_floats_0 rfl ?_
  refine jr_iload_n F dX7_floats_1 rfl ?_
  refine jr_sI F dX7_floats_2 cs_X7_186 (c_X7_refusal (by omega) (by omega)) rfl (Nat.le_of_ble_eq_true rfl) (Nat.le_of_ble_eq_true rfl) rfl (Nat.le_of_ble_eq_true rfl) ?_
  refine jr_ti (b := (refq s e)) rfl ?_
  have rR := refq_R s e
  refine jr_istore_n F dX7_floats_5 (Nat.le_of_ble_eq_true rfl) rfl ?_
  refine jr_iload_n F dX7_floats_6 rfl ?_
  refine jr_if_eq (tgt := 14) F dX7_floats_7 (by decide) (fun c7 => ?_) (fun c7 => ?_) (by omega)
  · skip
    have h7 := refq_0 c7
    refine jr_aload_n F dX7_floats_14 rfl ?_
    refine jr_aload_n F dX7_floats_15 rfl ?_
    refine jr_iload_n F dX7_floats_16 rfl ?_
    refine jr_iload_n F dX7_floats_17 rfl ?_
    refine jr_vE F dX7_floats_18 cv_X7_206 (c_believed h7.1 hQ.1 (by omega)) (Nat.le_of_ble_eq_true rfl) rfl rfl rfl rfl (Nat.le_of_ble_eq_true rfl) (Nat.le_of_ble_eq_true rfl) rfl (Nat.le_of_ble_eq_true rfl) (fun r18 w18 h18 => ?_)
    rw [h18.1]
    have s18 := e17_sq h18.2
    have Q2 := sq_QI s18 hQ
    refine jr_iload_n F dX7_floats_21 rfl ?_
    refine jr_vE F dX7_floats_22 cv_X7_209 (c_X7_afloat Q2.2.1 Q2.2.2.2.2.1 (sq_TN s18 hN) (by omega) h7.2) (Nat.le_of_ble_eq_true rfl) rfl rfl rfl rfl (Nat.le_of_ble_eq_true rfl) (Nat.le_of_ble_eq_true rfl) rfl (Nat.le_of_ble_eq_true rfl) (fun r22 w22 h22 => ?_)
    exact jr_iret F dX7_floats_25 (pE_of ⟨by unfold flqw; rw [if_pos c7, h22.1, sq_flow s18], by rw [h22.2]; exact s18⟩)
  · skip
    refine jr_iload_n F dX7_floats_10 rfl ?_
    refine jr_goto (tgt := 25) F dX7_floats_11 (by decide) ?_
    exact jr_iret F dX7_floats_25 (pE_of ⟨by unfold flqw; rw [if_neg c7], sq_r w⟩)

