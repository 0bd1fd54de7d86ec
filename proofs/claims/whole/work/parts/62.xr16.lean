theorem anc_s2 {w : Wd} {b e z x y : Int} (hs : ∀ k : Int, 0 ≤ k → inb z k → anc w b e k) (h1 : stp (rcl w e) z x (w 1 3)) (h2 : stp (tcl w b) x y (w 5 3)) : ∀ k : Int, 0 ≤ k → inb y k → anc w b e k := by
  intro k k0 q S hT hR
  exact h2.2.2.1 S hT (h1.2.2.1 S hR (fun j j0 p => hs j j0 p S hT hR)) k k0 q
theorem anc_c2 {w : Wd} {b e z x : Int} (hz : 0 ≤ z) (h1 : stp (rcl w e) z x (w 1 3)) (h2 : stp (tcl w b) x z (w 5 3)) (k : Int) (q : anc w b e k) : inb z k := by
  have ex : x = z := inb_e h1.1.1 hz (fun k k0 => ⟨h2.2.1 k k0, h1.2.1 k k0⟩)
  subst ex
  exact q _ (h2.2.2.2 rfl) (h1.2.2.2 rfl)
/-- the reigns that a sky or a ring holds, of the ties ahead of n -/
def AN (w : Wd) (b z n : Int) : Prop := (0 ≤ z ∧ z ≤ 1023) ∧ (∀ k : Int, 0 ≤ k → inb z k → ∃ t : Int, (0 ≤ t ∧ t < w 5 3) ∧ inb b t ∧ tfa w t 3 = -1 ∧ k = tfa w t 1) ∧ ∀ t : Int, 0 ≤ t → t < n → inb b t → tfa w t 3 = -1 → inb z (tfa w t 1)
theorem AN_0 (w : Wd) (b : Int) : AN w b 0 0 := ⟨by omega, fun k _ q => absurd q in_0, fun t a c => by omega⟩
theorem AN_n {w : Wd} {b z n : Int} (h : AN w b z n) (hn : ¬ (inb b n ∧ tfa w n 3 = -1)) : AN w b z (n + 1) := ⟨h.1, h.2.1, fun t t0 t1 hb h3 => by
  by_cases q : t = n
  · rw [q] at hb h3; exact absurd ⟨hb, h3⟩ hn
  · exact h.2.2 t t0 (by omega) hb h3⟩
theorem AN_y {w : Wd} {b z n : Int} (h : AN w b z n) (n0 : 0 ≤ n) (n1 : n < w 5 3) (hb : inb b n) (h3 : tfa w n 3 = -1) (ha : 0 ≤ tfa w n 1 ∧ tfa w n 1 < 10) : AN w b (orb z (pw (tfa w n 1))) (n + 1) := by
  have p := pw_10 (t := tfa w n 1) (by omega)
  have zR := h.1
  refine ⟨orb_R (by omega) (by omega), fun k k0 q => ?_, fun t t0 t1 hb' h3' => ?_⟩
  · rcases orb_in.mp q with y | y
    · exact h.2.1 k k0 y
    · exact ⟨n, ⟨n0, n1⟩, hb, h3, (pw_in ha.1 k0).mp y⟩
  · by_cases q : t = n
    · rw [q]; exact orb_in.mpr (Or.inr ((pw_in ha.1 ha.1).mpr rfl))
    · exact orb_in.mpr (Or.inl (h.2.2 t t0 (by omega) hb' h3'))
theorem AN_anc {w : Wd} {b e z n : Int} (h : AN w b z n) : ∀ k : Int, 0 ≤ k → inb z k → anc w b e k := by
  intro k k0 q S hT hR
  obtain ⟨t, t1, hb, h3, rfl⟩ := h.2.1 k k0 q
  exact (hT t t1.1 t1.2 hb).1 h3
theorem or0 {z : Int} (h : 0 ≤ z ∧ z ≤ 1023) : Int32.ofInt z ||| Int32.ofInt 0 = Int32.ofInt z := by
  rw [b_orb h (by omega)]
  congr 1
  unfold orb
  rw [show (0 : Int).toNat = 0 from rfl, Nat.or_zero]
  omega
theorem cb_n {z a b : Int} (h : ¬ cb z a = cb z b) : ¬ anb z (orb (pw a) (pw b)) = 0 ∨ ¬ (0 ≤ a ∧ 0 ≤ b) := by
  by_cases q : 0 ≤ a ∧ 0 ≤ b
  · left
    intro y
    have y := anb_0.mp y
    unfold cb at h
    by_cases p : inb z a
    · exact y a q.1 ⟨p, orb_in.mpr (Or.inl ((pw_in q.1 q.1).mpr rfl))⟩
    · by_cases r : inb z b
      · exact y b q.2 ⟨r, orb_in.mpr (Or.inr ((pw_in q.2 q.2).mpr rfl))⟩
      · rw [bi_f p, bi_f r] at h; exact h rfl
  · exact Or.inr q
theorem cb_i {z a b : Int} (h : cb z a = cb z b) : inb z a ↔ inb z b := by
  unfold cb at h
  constructor
  · intro q
    rw [bi_t q] at h
    exact bi_eq1.mp h.symm
  · intro q
    rw [bi_t q] at h
    exact bi_eq1.mp h
def FM (was h : Int) : Int := 2 * (10 - bcx h 10) + (if was = h then 0 else 1)
theorem FM_s {was h h' : Int} (hne : ¬ was = h) (hR : 0 ≤ h ∧ h ≤ 1023) (hR' : 0 ≤ h' ∧ h' ≤ 1023) (hs : ∀ k : Int, 0 ≤ k → inb h k → inb h' k) : FM h h' < FM was h ∧ 0 ≤ FM h h' := by
  have b1 := bcx_R h 10
  have b2 := bcx_R h' 10
  unfold FM
  rw [if_neg hne]
  by_cases q : h = h'
  · subst q; rw [if_pos rfl]; omega
  · rw [if_neg q]
    have := bcx_lt hR hR' hs (fun y => q y.symm)
    omega
theorem flow_x {w : Wd} {b e z : Int} (hs : ∀ k : Int, 0 ≤ k → inb z k → anc w b e k) (hc : ∀ k : Int, anc w b e k → inb z k) : bsI (fun k => fa w k 4 ≤ e ∧ ¬ inb z k) (w 1 3) = flow w b e := by
  have a : 0 ≤ bsI (fun k => fa w k 4 ≤ e ∧ ¬ inb z k) (w 1 3) := by unfold bsI; omega
  have c : 0 ≤ flow w b e := by unfold flow bsI; omega
  refine inb_e a c (fun k k0 => ?_)
  unfold flow inb
  rw [bsI_bit k0, bsI_bit k0]
  exact ⟨fun ⟨p, q, r⟩ => ⟨p, q, fun y => r (hc k y)⟩, fun ⟨p, q, r⟩ => ⟨p, q, fun y => r (hs k k0 y)⟩⟩

set_option maxRecDepth 100000 in
set_option maxHeartbeats 4000000 in
theorem c_X8_floatsOf {B : Bs} {w m : Wd} {s e : Int} (hM : RM w m) (hI : IM w) (hs0 : s = 0 ∨ s = 1) (he : 0 ≤ e ∧ e ≤ 9) : Sp (GM B) 5 yX8_floatsOf cX8_floatsOf 9 (Option.some FieldType.int) [.ref (ga (GM B) (0)), iv (s), iv (e)] m (pE (fun x u => x = flow w (blB w s e) e ∧ wk m u)) := by
  refine Sp.of (by decide) (Nat.le_of_ble_eq_true rfl) (fun X F => ?_)
  obtain ⟨⟨i1, i2, i3, i4, i5⟩, ⟨i6, i7⟩, i8, i9, i10, ⟨i11, i12⟩, i13⟩ := id hI
  have n10 := i1.1
  have h3 := i1.1
  have n8 := i3.1
  have n6 := i4.1
  show Jw (GM B) X _ 0 [some (.ref (ga (GM B) (0))), some (iv (s)), some (iv (e))] [] m
  refine jr_aload_n F dX8_floatsOf_0 rfl ?_
  refine jr_iload_n F dX8_floatsOf_1 rfl ?_
  refine jr_iload_n F dX8_floatsOf_2 rfl ?_
  refine jr_vE F dX8_floatsOf_3 cv_X8_219 (c_X8_tiesOf hM i3 i5 n10 i11 i12 i13 hs0 (by omega)) (Nat.le_of_ble_eq_true rfl) rfl rfl rfl rfl (Nat.le_of_ble_eq_true rfl) (Nat.le_of_ble_eq_true rfl) rfl (Nat.le_of_ble_eq_true rfl) (fun r3 w3 h3_ => ?_)
  have B3 := blB_R i3 s e
  have M3 : RM w w3 := wk_RM h3_.2 hM
  rw [h3_.1]
  refine jr_istore_n F dX8_floatsOf_6 (Nat.le_of_ble_eq_true rfl) rfl ?_
  refine jr_iconst F dX8_floatsOf_7 ?_
  refine jr_istore F dX8_floatsOf_8 (Nat.le_of_ble_eq_true rfl) rfl ?_
  refine jr_iconst F dX8_floatsOf_10 ?_
  refine jr_istore F dX8_floatsOf_11 (Nat.le_of_ble_eq_true rfl) rfl ?_
  have L13 : ∀ (fuel : Nat) (i : Int) (z : Int), (w 5 3 - i).toNat < fuel → (0 ≤ i ∧ i ≤ w 5 3) → (AN w (blB w s e) z i) → Jw (GM B) X (pE (fun x u => x = flow w (blB w s e) e ∧ wk m u)) 13 [some (.ref (ga (GM B) 0)), some (iv s), some (iv e), some (iv (blB w s e)), some (iv z), some (iv i)] [] w3 := by
    intro fuel
    induction fuel with
    | zero => intro i z hfuel; exact absurd hfuel (Nat.not_lt_zero _)
    | succ fuel ih13 =>
        intro i z hfuel i0 hz
        have zR := hz.1
        refine jr_iload F dX8_floatsOf_13 rfl ?_
        refine jr_aload_n F dX8_floatsOf_15 rfl ?_
        refine jr_getIx F (w 5 3) dX8_floatsOf_16 fg_X8_122 (Nat.le_of_ble_eq_true rfl) rfl rfl ((show w3 0 8 = (w 5 3) from rn8 M3)) (fun q16 => ?_)
        refine jr_icmp_ge (tgt := 101) F dX8_floatsOf_19 (by decide) (fun c19 => ?_) (fun c19 => ?_) (by omega) (by omega)
        · skip
          obtain rfl : i = w 5 3 := by omega
          refine jr_iconst F dX8_floatsOf_101 ?_
          refine jr_istore F dX8_floatsOf_102 (Nat.le_of_ble_eq_true rfl) rfl ?_
          have L104 : ∀ (fuel : Nat) (h : Int) (was : Int), (FM was h).toNat < fuel → (0 ≤ h ∧ h ≤ 1023) → (∀ k : Int, 0 ≤ k → inb h k → anc w (blB w s e) e k) → (∀ t : Int, 0 ≤ t → t < w 5 3 → inb (blB w s e) t → tfa w t 3 = -1 → inb h (tfa w t 1)) → (-1 ≤ was ∧ was ≤ 1023) → (was = -1 ∨ ∃ x, stp (rcl w e) was x (w 1 3) ∧ stp (tcl w (blB w s e)) x h (w 5 3)) → Jw (GM B) X (pE (fun x u => x = flow w (blB w s e) e ∧ wk m u)) 104 [some (.ref (ga (GM B) 0)), some (iv s), some (iv e), some (iv (blB w s e)), some (iv h), some (iv was)] [] w3 := by
            intro fuel
            induction fuel with
            | zero => intro h was hfuel; exact absurd hfuel (Nat.not_lt_zero _)
            | succ fuel ih104 =>
                intro h was hfuel aR hs ha wR hc
                refine jr_iload F dX8_floatsOf_104 rfl ?_
                refine jr_iload F dX8_floatsOf_106 rfl ?_
                refine jr_icmp_eq (tgt := 285) F dX8_floatsOf_108 (by decide) (fun c108 => ?_) (fun c108 => ?_) (by omega) (by omega)
                · skip
                  obtain ⟨x0, h1x, h2x⟩ := hc.resolve_left (by omega)
                  rw [c108] at h1x
                  have hcl := anc_c2 aR.1 h1x h2x
                  refine jr_iconst F dX8_floatsOf_285 ?_
                  refine jr_istore F dX8_floatsOf_286 (Nat.le_of_ble_eq_true rfl) rfl ?_
                  refine jr_iconst F dX8_floatsOf_288 ?_
                  refine jr_istore F dX8_floatsOf_289 (Nat.le_of_ble_eq_true rfl) rfl ?_
                  have L291 : ∀ (fuel : Nat) (i : Int) (z : Int), (w 1 3 - i).toNat < fuel → (0 ≤ i ∧ i ≤ w 1 3) → (z = bsI (fun k => fa w k 4 ≤ e ∧ ¬ inb h k) i) → Jw (GM B) X (pE (fun x u => x = flow w (blB w s e) e ∧ wk m u)) 291 [some (.ref (ga (GM B) 0)), some (iv s), some (iv e), some (iv (blB w s e)), some (iv h), some (iv was), some (iv z), some (iv i)] [] w3 := by
                    intro fuel
                    induction fuel with
                    | zero => intro i z hfuel; exact absurd hfuel (Nat.not_lt_zero _)
                    | succ fuel ih291 =>
                        intro i z hfuel r0 hz
                        have zR := bsI_R10 (fun k => fa w k 4 ≤ e ∧ ¬ inb h k) (i := i) (by omega)
                        refine jr_iload F dX8_floatsOf_291 rfl ?_
                        refine jr_aload_n F dX8_floatsOf_293 rfl ?_
                        refine jr_getIx F (w 1 3) dX8_floatsOf_294 fg_X8_84 (Nat.le_of_ble_eq_true rfl) rfl rfl ((show w3 0 0 = (w 1 3) from rn0 M3)) (fun q294 => ?_)
                        refine jr_icmp_ge (tgt := 339) F dX8_floatsOf_297 (by decide) (fun c297 => ?_) (fun c297 => ?_) (by omega) (by omega)
                        · skip
                          refine jr_iload F dX8_floatsOf_339 rfl ?_
                          exact jr_iret F dX8_floatsOf_341 (pE_of ⟨by rw [hz, show i = w 1 3 by omega]; exact flow_x hs hcl, h3_.2⟩)
                        · skip
                          refine jr_iload F dX8_floatsOf_300 rfl ?_
                          refine jr_aload_n F dX8_floatsOf_302 rfl ?_
                          refine jr_iload F dX8_floatsOf_303 rfl ?_
                          refine jr_iload_n F dX8_floatsOf_305 rfl ?_
                          refine jr_vI F dX8_floatsOf_306 cv_X8_188 (c_X8_isKnown M3 (by omega) (by omega)) (Nat.le_of_ble_eq_true rfl) rfl rfl rfl rfl (Nat.le_of_ble_eq_true rfl) (Nat.le_of_ble_eq_true rfl) rfl (Nat.le_of_ble_eq_true rfl) ?_
                          refine jr_ifeq_b (tgt := 329) F dX8_floatsOf_309 (by decide) (fun c309 => ?_) (fun c309 => ?_)
                          · skip
                            refine jr_iconst F dX8_floatsOf_329 ?_
                            refine jr_ior F dX8_floatsOf_330 ?_
                            refine jr_top (z := bsI (fun k => fa w k 4 ≤ e ∧ ¬ inb h k) (i + 1)) F (by rw [hz]; first | exact b_orT r0.1 (by omega) ⟨c309, c319⟩ | exact b_orF r0.1 (by omega) (fun q => q.2 c319) | exact b_orF r0.1 (by omega) (fun q => c309 q.1)) ?_
                            refine jr_istore F dX8_floatsOf_331 (Nat.le_of_ble_eq_true rfl) rfl ?_
                            refine jr_iinc F dX8_floatsOf_333 rfl (Nat.le_of_ble_eq_true rfl) rfl ?_
                            refine jr_goto (tgt := 291) F dX8_floatsOf_336 (by decide) ?_
                            exact jr_sub (ih291 (i + 1) _ (by omega) (by omega) rfl) ⟨rfl, rfl, rfl, rfl, rfl, rfl, rfl, rfl, trivial⟩
                          · skip
                            refine jr_iload F dX8_floatsOf_312 rfl ?_
                            refine jr_iload F dX8_floatsOf_314 rfl ?_
                            refine jr_ishr F dX8_floatsOf_316 ?_
                            refine jr_iconst F dX8_floatsOf_317 ?_
                            refine jr_iand F dX8_floatsOf_318 ?_
                            refine jr_top (z := (cb h i)) F (b_bit (by omega) (by omega)) ?_
                            refine jr_ifne_b (tgt := 329) F dX8_floatsOf_319 (by decide) (fun c319 => ?_) (fun c319 => ?_)
                            · skip
                              refine jr_iconst F dX8_floatsOf_329 ?_
                              refine jr_ior F dX8_floatsOf_330 ?_
                              refine jr_top (z := bsI (fun k => fa w k 4 ≤ e ∧ ¬ inb h k) (i + 1)) F (by rw [hz]; first | exact b_orT r0.1 (by omega) ⟨c309, c319⟩ | exact b_orF r0.1 (by omega) (fun q => q.2 c319) | exact b_orF r0.1 (by omega) (fun q => c309 q.1)) ?_
                              refine jr_istore F dX8_floatsOf_331 (Nat.le_of_ble_eq_true rfl) rfl ?_
                              refine jr_iinc F dX8_floatsOf_333 rfl (Nat.le_of_ble_eq_true rfl) rfl ?_
                              refine jr_goto (tgt := 291) F dX8_floatsOf_336 (by decide) ?_
                              exact jr_sub (ih291 (i + 1) _ (by omega) (by omega) rfl) ⟨rfl, rfl, rfl, rfl, rfl, rfl, rfl, rfl, trivial⟩
                            · skip
                              refine jr_iconst F dX8_floatsOf_322 ?_
                              refine jr_iload F dX8_floatsOf_323 rfl ?_
                              refine jr_ishl F dX8_floatsOf_325 ?_
                              refine jr_goto (tgt := 330) F dX8_floatsOf_326 (by decide) ?_
                              refine jr_ior F dX8_floatsOf_330 ?_
                              refine jr_top (z := bsI (fun k => fa w k 4 ≤ e ∧ ¬ inb h k) (i + 1)) F (by rw [hz]; first | exact b_orT r0.1 (by omega) ⟨c309, c319⟩ | exact b_orF r0.1 (by omega) (fun q => q.2 c319) | exact b_orF r0.1 (by omega) (fun q => c309 q.1)) ?_
                              refine jr_istore F dX8_floatsOf_331 (Nat.le_of_ble_eq_true rfl) rfl ?_
                              refine jr_iinc F dX8_floatsOf_333 rfl (Nat.le_of_ble_eq_true rfl) rfl ?_
                              refine jr_goto (tgt := 291) F dX8_floatsOf_336 (by decide) ?_
                              exact jr_sub (ih291 (i + 1) _ (by omega) (by omega) rfl) ⟨rfl, rfl, rfl, rfl, rfl, rfl, rfl, rfl, trivial⟩
                  exact jr_sub (L291 _ 0 0 (Nat.lt_succ_self _) (by omega) rfl) ⟨rfl, rfl, rfl, rfl, rfl, rfl, rfl, rfl, trivial⟩
                · skip
                  refine jr_iload F dX8_floatsOf_111 rfl ?_
                  refine jr_istore F dX8_floatsOf_113 (Nat.le_of_ble_eq_true rfl) rfl ?_
                  refine jr_iconst F dX8_floatsOf_115 ?_
                  refine jr_istore F dX8_floatsOf_116 (Nat.le_of_ble_eq_true rfl) rfl ?_
                  have L118 : ∀ (fuel : Nat) (i : Int) (x : Int), (w 1 3 - i).toNat < fuel → (0 ≤ i ∧ i ≤ w 1 3) → (stp (rcl w e) h x i) → Jw (GM B) X (pE (fun x u => x = flow w (blB w s e) e ∧ wk m u)) 118 [some (.ref (ga (GM B) 0)), some (iv s), some (iv e), some (iv (blB w s e)), some (iv x), some (iv h), some (iv i)] [] w3 := by
                    intro fuel
                    induction fuel with
                    | zero => intro i x hfuel; exact absurd hfuel (Nat.not_lt_zero _)
                    | succ fuel ih118 =>
                        intro i x hfuel r0 hx
                        have xR := hx.1
                        refine jr_iload F dX8_floatsOf_118 rfl ?_
                        refine jr_aload_n F dX8_floatsOf_120 rfl ?_
                        refine jr_getIx F (w 1 3) dX8_floatsOf_121 fg_X8_84 (Nat.le_of_ble_eq_true rfl) rfl rfl ((show w3 0 0 = (w 1 3) from rn0 M3)) (fun q121 => ?_)
                        refine jr_icmp_ge (tgt := 189) F dX8_floatsOf_124 (by decide) (fun c124 => ?_) (fun c124 => ?_) (by omega) (by omega)
                        · skip
                          obtain rfl : i = w 1 3 := by omega
                          refine jr_iconst F dX8_floatsOf_189 ?_
                          refine jr_istore F dX8_floatsOf_190 (Nat.le_of_ble_eq_true rfl) rfl ?_
                          have L192 : ∀ (fuel : Nat) (i : Int) (y : Int), (w 5 3 - i).toNat < fuel → (0 ≤ i ∧ i ≤ w 5 3) → (stp (tcl w (blB w s e)) x y i) → Jw (GM B) X (pE (fun x u => x = flow w (blB w s e) e ∧ wk m u)) 192 [some (.ref (ga (GM B) 0)), some (iv s), some (iv e), some (iv (blB w s e)), some (iv y), some (iv h), some (iv i)] [] w3 := by
                            intro fuel
                            induction fuel with
                            | zero => intro i y hfuel; exact absurd hfuel (Nat.not_lt_zero _)
                            | succ fuel ih192 =>
                                intro i y hfuel t0 hy
                                have yR := hy.1
                                refine jr_iload F dX8_floatsOf_192 rfl ?_
                                refine jr_aload_n F dX8_floatsOf_194 rfl ?_
                                refine jr_getIx F (w 5 3) dX8_floatsOf_195 fg_X8_122 (Nat.le_of_ble_eq_true rfl) rfl rfl ((show w3 0 8 = (w 5 3) from rn8 M3)) (fun q195 => ?_)
                                refine jr_icmp_ge (tgt := 282) F dX8_floatsOf_198 (by decide) (fun c198 => ?_) (fun c198 => ?_) (by omega) (by omega)
                                · skip
                                  obtain rfl : i = w 5 3 := by omega
                                  have hxe := hx
                                  have hye := hy
                                  have HS : ∀ k : Int, 0 ≤ k → inb h k → inb y k := fun k k0 q => hy.2.1 k k0 (hx.2.1 k k0 q)
                                  refine jr_goto (tgt := 104) F dX8_floatsOf_282 (by decide) ?_
                                  exact jr_sub (ih104 y h (by have := FM_s (was := was) (h := h) (h' := y) c108 aR hy.1 HS; omega) hy.1 (anc_s2 hs hxe hye) (fun t t0 t1 hb h3 => HS _ (by have := i3.2 t t0 t1; omega) (ha t t0 t1 hb h3)) (by omega) (Or.inr ⟨x, hxe, hye⟩)) ⟨rfl, rfl, rfl, rfl, rfl, rfl, trivial⟩
                                · skip
                                  have tt := i3.2 i (by omega) (by omega)
                                  have nn := i5 i (by omega) (by omega)
                                  refine jr_aload_n F dX8_floatsOf_201 rfl ?_
                                  refine jr_getR (t := 8) F dX8_floatsOf_202 fg_X8_31 (Nat.le_of_ble_eq_true rfl) rfl rfl ?_
                                  refine jr_bipush F dX8_floatsOf_205 (by decide) ?_
                                  refine jr_iload F dX8_floatsOf_207 rfl ?_
                                  refine jr_imul F dX8_floatsOf_209 ?_
                                  refine jr_iconst F dX8_floatsOf_210 ?_
                                  refine jr_iadd F dX8_floatsOf_211 ?_
                                  refine jr_iald F dX8_floatsOf_212 (Nat.le_of_ble_eq_true rfl) rfl (by omega) (fun q212 => ?_) (by omega) (by omega)
                                  have v212 : w3 8 (((7 * i) + 1)) = (tfa w i 1) := (rmT M3 (t := i) (f := 1) (by omega) (by omega) (by omega) (by omega))
                                  rw [v212] at q212
                                  refine jr_ti v212 ?_
                                  refine jr_istore F dX8_floatsOf_213 (Nat.le_of_ble_eq_true rfl) rfl ?_
                                  refine jr_aload_n F dX8_floatsOf_215 rfl ?_
                                  refine jr_getR (t := 8) F dX8_floatsOf_216 fg_X8_31 (Nat.le_of_ble_eq_true rfl) rfl rfl ?_
                                  refine jr_bipush F dX8_floatsOf_219 (by decide) ?_
                                  refine jr_iload F dX8_floatsOf_221 rfl ?_
                                  refine jr_imul F dX8_floatsOf_223 ?_
                                  refine jr_iconst F dX8_floatsOf_224 ?_
                                  refine jr_iadd F dX8_floatsOf_225 ?_
                                  refine jr_iald F dX8_floatsOf_226 (Nat.le_of_ble_eq_true rfl) rfl (by omega) (fun q226 => ?_) (by omega) (by omega)
                                  have v226 : w3 8 (((7 * i) + 3)) = (tfa w i 3) := (rmT M3 (t := i) (f := 3) (by omega) (by omega) (by omega) (by omega))
                                  rw [v226] at q226
                                  refine jr_ti v226 ?_
                                  refine jr_istore F dX8_floatsOf_227 (Nat.le_of_ble_eq_true rfl) rfl ?_
                                  refine jr_iload_n F dX8_floatsOf_229 rfl ?_
                                  refine jr_iload F dX8_floatsOf_230 rfl ?_
                                  refine jr_ishr F dX8_floatsOf_232 ?_
                                  refine jr_iconst F dX8_floatsOf_233 ?_
                                  refine jr_iand F dX8_floatsOf_234 ?_
                                  refine jr_top (z := (cb (blB w s e) i)) F (b_bit (by omega) (by omega)) ?_
                                  have cbR := cb_R (blB w s e) i
                                  have cb1 : cb (blB w s e) i = 1 ↔ inb (blB w s e) i := bi_eq1
                                  refine jr_iconst F dX8_floatsOf_235 ?_
                                  refine jr_icmp_ne (tgt := 276) F dX8_floatsOf_236 (by decide) (fun c236 => ?_) (fun c236 => ?_) (by omega) (by omega)
                                  · skip
                                    try have KNb : ¬ inb (blB w s e) i := fun q => by have := cb1.mpr q; omega
                                    refine jr_iinc F dX8_floatsOf_276 rfl (Nat.le_of_ble_eq_true rfl) rfl ?_
                                    refine jr_goto (tgt := 192) F dX8_floatsOf_279 (by decide) ?_
                                    first | exact jr_sub (ih192 (i + 1) _ (by omega) (by omega) H2) ⟨rfl, rfl, rfl, rfl, rfl, rfl, rfl, trivial⟩ | exact jr_sub (ih192 (i + 1) _ (by omega) (by omega) (stp_k hx.1.1 hy t0.1 (fun hb => ⟨fun h3 => hy.2.1 _ (by omega) (hx.2.1 _ (by omega) (ha i t0.1 (by omega) hb h3)), fun h3 => by first | exact absurd hb KNb | exact absurd c242 h3 | exact cb_i c259⟩))) ⟨rfl, rfl, rfl, rfl, rfl, rfl, rfl, trivial⟩
                                  · skip
                                    refine jr_iload F dX8_floatsOf_239 rfl ?_
                                    refine jr_iconst F dX8_floatsOf_241 ?_
                                    refine jr_icmp_eq (tgt := 276) F dX8_floatsOf_242 (by decide) (fun c242 => ?_) (fun c242 => ?_) (by omega) (by omega)
                                    · skip
                                      try have KNb : ¬ inb (blB w s e) i := fun q => by have := cb1.mpr q; omega
                                      refine jr_iinc F dX8_floatsOf_276 rfl (Nat.le_of_ble_eq_true rfl) rfl ?_
                                      refine jr_goto (tgt := 192) F dX8_floatsOf_279 (by decide) ?_
                                      first | exact jr_sub (ih192 (i + 1) _ (by omega) (by omega) H2) ⟨rfl, rfl, rfl, rfl, rfl, rfl, rfl, trivial⟩ | exact jr_sub (ih192 (i + 1) _ (by omega) (by omega) (stp_k hx.1.1 hy t0.1 (fun hb => ⟨fun h3 => hy.2.1 _ (by omega) (hx.2.1 _ (by omega) (ha i t0.1 (by omega) hb h3)), fun h3 => by first | exact absurd hb KNb | exact absurd c242 h3 | exact cb_i c259⟩))) ⟨rfl, rfl, rfl, rfl, rfl, rfl, rfl, trivial⟩
                                    · skip
                                      have c1 := cb_R y (tfa w i 1)
                                      have c2 := cb_R y (tfa w i 3)
                                      have r3 : 0 ≤ tfa w i 3 ∧ tfa w i 3 < w 1 3 := by omega
                                      have p1 := pw_10 (t := tfa w i 1) (by omega)
                                      have p3 := pw_10 (t := tfa w i 3) (by omega)
                                      have pR := orb_R (a := pw (tfa w i 1)) (m := pw (tfa w i 3)) (by omega) (by omega)
                                      have pI : ∀ k : Int, 0 ≤ k → (inb (orb (pw (tfa w i 1)) (pw (tfa w i 3))) k ↔ k = tfa w i 1 ∨ k = tfa w i 3) := fun k k0 => by rw [orb_in, pw_in (by omega) k0, pw_in (by omega) k0]
                                      refine jr_iload F dX8_floatsOf_245 rfl ?_
                                      refine jr_iload F dX8_floatsOf_247 rfl ?_
                                      refine jr_ishr F dX8_floatsOf_249 ?_
                                      refine jr_iconst F dX8_floatsOf_250 ?_
                                      refine jr_iand F dX8_floatsOf_251 ?_
                                      refine jr_top (z := (cb y (tfa w i 1))) F (b_bit (by omega) (by omega)) ?_
                                      refine jr_iload F dX8_floatsOf_252 rfl ?_
                                      refine jr_iload F dX8_floatsOf_254 rfl ?_
                                      refine jr_ishr F dX8_floatsOf_256 ?_
                                      refine jr_iconst F dX8_floatsOf_257 ?_
                                      refine jr_iand F dX8_floatsOf_258 ?_
                                      refine jr_top (z := (cb y (tfa w i 3))) F (b_bit (by omega) (by omega)) ?_
                                      refine jr_icmp_eq (tgt := 276) F dX8_floatsOf_259 (by decide) (fun c259 => ?_) (fun c259 => ?_) (by omega) (by omega)
                                      · skip
                                        try have KNb : ¬ inb (blB w s e) i := fun q => by have := cb1.mpr q; omega
                                        refine jr_iinc F dX8_floatsOf_276 rfl (Nat.le_of_ble_eq_true rfl) rfl ?_
                                        refine jr_goto (tgt := 192) F dX8_floatsOf_279 (by decide) ?_
                                        first | exact jr_sub (ih192 (i + 1) _ (by omega) (by omega) H2) ⟨rfl, rfl, rfl, rfl, rfl, rfl, rfl, trivial⟩ | exact jr_sub (ih192 (i + 1) _ (by omega) (by omega) (stp_k hx.1.1 hy t0.1 (fun hb => ⟨fun h3 => hy.2.1 _ (by omega) (hx.2.1 _ (by omega) (ha i t0.1 (by omega) hb h3)), fun h3 => by first | exact absurd hb KNb | exact absurd c242 h3 | exact cb_i c259⟩))) ⟨rfl, rfl, rfl, rfl, rfl, rfl, rfl, trivial⟩
                                      · skip
                                        refine jr_iload F dX8_floatsOf_262 rfl ?_
                                        refine jr_iconst F dX8_floatsOf_264 ?_
                                        refine jr_iload F dX8_floatsOf_265 rfl ?_
                                        refine jr_ishl F dX8_floatsOf_267 ?_
                                        refine jr_top (z := (pw (tfa w i 1))) F (b_shl1 (by omega)) ?_
                                        refine jr_iconst F dX8_floatsOf_268 ?_
                                        refine jr_iload F dX8_floatsOf_269 rfl ?_
                                        refine jr_ishl F dX8_floatsOf_271 ?_
                                        refine jr_top (z := (pw (tfa w i 3))) F (b_shl1 (by omega)) ?_
                                        refine jr_ior F dX8_floatsOf_272 ?_
                                        refine jr_top (z := (orb (pw (tfa w i 1)) (pw (tfa w i 3)))) F (b_orb (by omega) (by omega)) ?_
                                        refine jr_ior F dX8_floatsOf_273 ?_
                                        refine jr_top (z := (orb y (orb (pw (tfa w i 1)) (pw (tfa w i 3))))) F (b_orb (by omega) (by omega)) ?_
                                        have H2 : stp (tcl w (blB w s e)) x (orb y (orb (pw (tfa w i 1)) (pw (tfa w i 3)))) (i + 1) := spr_y hx.1.1 hy t0.1 (show 0 ≤ tfa w i 1 by omega) (show 0 ≤ tfa w i 3 by omega) pR pI (fun S hK => (hK (cb1.mp (by omega))).2 c242) (Or.inr ((cb_n c259).resolve_right (fun q => q ⟨by omega, by omega⟩))) (fun y2 _ => ⟨fun h3 => absurd h3 c242, fun _ => ⟨fun _ => y2.2, fun _ => y2.1⟩⟩)
                                        refine jr_istore F dX8_floatsOf_274 (Nat.le_of_ble_eq_true rfl) rfl ?_
                                        try have KNb : ¬ inb (blB w s e) i := fun q => by have := cb1.mpr q; omega
                                        refine jr_iinc F dX8_floatsOf_276 rfl (Nat.le_of_ble_eq_true rfl) rfl ?_
                                        refine jr_goto (tgt := 192) F dX8_floatsOf_279 (by decide) ?_
                                        first | exact jr_sub (ih192 (i + 1) _ (by omega) (by omega) H2) ⟨rfl, rfl, rfl, rfl, rfl, rfl, rfl, trivial⟩ | exact jr_sub (ih192 (i + 1) _ (by omega) (by omega) (stp_k hx.1.1 hy t0.1 (fun hb => ⟨fun h3 => hy.2.1 _ (by omega) (hx.2.1 _ (by omega) (ha i t0.1 (by omega) hb h3)), fun h3 => by first | exact absurd hb KNb | exact absurd c242 h3 | exact cb_i c259⟩))) ⟨rfl, rfl, rfl, rfl, rfl, rfl, rfl, trivial⟩
                          exact jr_sub (L192 _ 0 x (Nat.lt_succ_self _) (by omega) (stp_0 _ hx.1)) ⟨rfl, rfl, rfl, rfl, rfl, rfl, rfl, trivial⟩
                        · skip
                          have ri := i1.2 i (by omega) (by omega)
                          refine jr_aload_n F dX8_floatsOf_127 rfl ?_
                          refine jr_getR (t := 6) F dX8_floatsOf_128 fg_X8_25 (Nat.le_of_ble_eq_true rfl) rfl rfl ?_
                          refine jr_iload F dX8_floatsOf_131 rfl ?_
                          refine jr_iald F dX8_floatsOf_133 (Nat.le_of_ble_eq_true rfl) rfl (by omega) (fun q133 => ?_) (by omega) (by omega)
                          have v133 : w3 6 (i) = (fa w i 5) := (rmf5 M3 (r := i) (by omega) (by omega))
                          rw [v133] at q133
                          refine jr_ti v133 ?_
                          refine jr_istore F dX8_floatsOf_134 (Nat.le_of_ble_eq_true rfl) rfl ?_
                          refine jr_iload F dX8_floatsOf_136 rfl ?_
                          refine jr_iconst F dX8_floatsOf_138 ?_
                          refine jr_icmp_eq (tgt := 183) F dX8_floatsOf_139 (by decide) (fun c139 => ?_) (fun c139 => ?_) (by omega) (by omega)
                          · skip
                            refine jr_iinc F dX8_floatsOf_183 rfl (Nat.le_of_ble_eq_true rfl) rfl ?_
                            refine jr_goto (tgt := 118) F dX8_floatsOf_186 (by decide) ?_
                            first | exact jr_sub (ih118 (i + 1) _ (by omega) (by omega) (stp_k aR.1 hx r0.1 (fun q => absurd c139 q.2))) ⟨rfl, rfl, rfl, rfl, rfl, rfl, rfl, trivial⟩ | exact jr_sub (ih118 (i + 1) _ (by omega) (by omega) (stp_k aR.1 hx r0.1 (fun q => absurd q.1.2.2 c149))) ⟨rfl, rfl, rfl, rfl, rfl, rfl, rfl, trivial⟩ | exact jr_sub (ih118 (i + 1) _ (by omega) (by omega) (stp_k aR.1 hx r0.1 (fun _ => cb_i c166))) ⟨rfl, rfl, rfl, rfl, rfl, rfl, rfl, trivial⟩ | exact jr_sub (ih118 (i + 1) _ (by omega) (by omega) H1) ⟨rfl, rfl, rfl, rfl, rfl, rfl, rfl, trivial⟩
                          · skip
                            refine jr_aload_n F dX8_floatsOf_142 rfl ?_
                            refine jr_iload F dX8_floatsOf_143 rfl ?_
                            refine jr_iload_n F dX8_floatsOf_145 rfl ?_
                            refine jr_vI F dX8_floatsOf_146 cv_X8_188 (c_X8_isKnown M3 (by omega) (by omega)) (Nat.le_of_ble_eq_true rfl) rfl rfl rfl rfl (Nat.le_of_ble_eq_true rfl) (Nat.le_of_ble_eq_true rfl) rfl (Nat.le_of_ble_eq_true rfl) ?_
                            refine jr_ifeq_b (tgt := 183) F dX8_floatsOf_149 (by decide) (fun c149 => ?_) (fun c149 => ?_)
                            · skip
                              refine jr_iinc F dX8_floatsOf_183 rfl (Nat.le_of_ble_eq_true rfl) rfl ?_
                              refine jr_goto (tgt := 118) F dX8_floatsOf_186 (by decide) ?_
                              first | exact jr_sub (ih118 (i + 1) _ (by omega) (by omega) (stp_k aR.1 hx r0.1 (fun q => absurd c139 q.2))) ⟨rfl, rfl, rfl, rfl, rfl, rfl, rfl, trivial⟩ | exact jr_sub (ih118 (i + 1) _ (by omega) (by omega) (stp_k aR.1 hx r0.1 (fun q => absurd q.1.2.2 c149))) ⟨rfl, rfl, rfl, rfl, rfl, rfl, rfl, trivial⟩ | exact jr_sub (ih118 (i + 1) _ (by omega) (by omega) (stp_k aR.1 hx r0.1 (fun _ => cb_i c166))) ⟨rfl, rfl, rfl, rfl, rfl, rfl, rfl, trivial⟩ | exact jr_sub (ih118 (i + 1) _ (by omega) (by omega) H1) ⟨rfl, rfl, rfl, rfl, rfl, rfl, rfl, trivial⟩
                            · skip
                              have c1 := cb_R x i
                              have c2 := cb_R x (fa w i 5)
                              have pa := pw_10 (t := i) (by omega)
                              have pb := pw_10 (t := fa w i 5) (by omega)
                              have pR := orb_R (a := pw i) (m := pw (fa w i 5)) (by omega) (by omega)
                              have pI : ∀ k : Int, 0 ≤ k → (inb (orb (pw i) (pw (fa w i 5))) k ↔ k = i ∨ k = fa w i 5) := fun k k0 => by rw [orb_in, pw_in r0.1 k0, pw_in (by omega) k0]
                              refine jr_iload F dX8_floatsOf_152 rfl ?_
                              refine jr_iload F dX8_floatsOf_154 rfl ?_
                              refine jr_ishr F dX8_floatsOf_156 ?_
                              refine jr_iconst F dX8_floatsOf_157 ?_
                              refine jr_iand F dX8_floatsOf_158 ?_
                              refine jr_top (z := (cb x i)) F (b_bit (by omega) (by omega)) ?_
                              refine jr_iload F dX8_floatsOf_159 rfl ?_
                              refine jr_iload F dX8_floatsOf_161 rfl ?_
                              refine jr_ishr F dX8_floatsOf_163 ?_
                              refine jr_iconst F dX8_floatsOf_164 ?_
                              refine jr_iand F dX8_floatsOf_165 ?_
                              refine jr_top (z := (cb x (fa w i 5))) F (b_bit (by omega) (by omega)) ?_
                              refine jr_icmp_eq (tgt := 183) F dX8_floatsOf_166 (by decide) (fun c166 => ?_) (fun c166 => ?_) (by omega) (by omega)
                              · skip
                                refine jr_iinc F dX8_floatsOf_183 rfl (Nat.le_of_ble_eq_true rfl) rfl ?_
                                refine jr_goto (tgt := 118) F dX8_floatsOf_186 (by decide) ?_
                                first | exact jr_sub (ih118 (i + 1) _ (by omega) (by omega) (stp_k aR.1 hx r0.1 (fun q => absurd c139 q.2))) ⟨rfl, rfl, rfl, rfl, rfl, rfl, rfl, trivial⟩ | exact jr_sub (ih118 (i + 1) _ (by omega) (by omega) (stp_k aR.1 hx r0.1 (fun q => absurd q.1.2.2 c149))) ⟨rfl, rfl, rfl, rfl, rfl, rfl, rfl, trivial⟩ | exact jr_sub (ih118 (i + 1) _ (by omega) (by omega) (stp_k aR.1 hx r0.1 (fun _ => cb_i c166))) ⟨rfl, rfl, rfl, rfl, rfl, rfl, rfl, trivial⟩ | exact jr_sub (ih118 (i + 1) _ (by omega) (by omega) H1) ⟨rfl, rfl, rfl, rfl, rfl, rfl, rfl, trivial⟩
                              · skip
                                refine jr_iload F dX8_floatsOf_169 rfl ?_
                                refine jr_iconst F dX8_floatsOf_171 ?_
                                refine jr_iload F dX8_floatsOf_172 rfl ?_
                                refine jr_ishl F dX8_floatsOf_174 ?_
                                refine jr_top (z := (pw i)) F (b_shl1 (by omega)) ?_
                                refine jr_iconst F dX8_floatsOf_175 ?_
                                refine jr_iload F dX8_floatsOf_176 rfl ?_
                                refine jr_ishl F dX8_floatsOf_178 ?_
                                refine jr_top (z := (pw (fa w i 5))) F (b_shl1 (by omega)) ?_
                                refine jr_ior F dX8_floatsOf_179 ?_
                                refine jr_top (z := (orb (pw i) (pw (fa w i 5)))) F (b_orb (by omega) (by omega)) ?_
                                refine jr_ior F dX8_floatsOf_180 ?_
                                refine jr_top (z := (orb x (orb (pw i) (pw (fa w i 5))))) F (b_orb (by omega) (by omega)) ?_
                                have H1 : stp (rcl w e) h (orb x (orb (pw i) (pw (fa w i 5)))) (i + 1) := spr_y aR.1 hx r0.1 r0.1 (show 0 ≤ fa w i 5 by omega) pR pI (fun S hK => hK ⟨by unfold knw; omega, c139⟩) (Or.inr ((cb_n c166).resolve_right (fun q => q ⟨by omega, by omega⟩))) (fun y _ => ⟨fun _ => y.2, fun _ => y.1⟩)
                                refine jr_istore F dX8_floatsOf_181 (Nat.le_of_ble_eq_true rfl) rfl ?_
                                refine jr_iinc F dX8_floatsOf_183 rfl (Nat.le_of_ble_eq_true rfl) rfl ?_
                                refine jr_goto (tgt := 118) F dX8_floatsOf_186 (by decide) ?_
                                first | exact jr_sub (ih118 (i + 1) _ (by omega) (by omega) (stp_k aR.1 hx r0.1 (fun q => absurd c139 q.2))) ⟨rfl, rfl, rfl, rfl, rfl, rfl, rfl, trivial⟩ | exact jr_sub (ih118 (i + 1) _ (by omega) (by omega) (stp_k aR.1 hx r0.1 (fun q => absurd q.1.2.2 c149))) ⟨rfl, rfl, rfl, rfl, rfl, rfl, rfl, trivial⟩ | exact jr_sub (ih118 (i + 1) _ (by omega) (by omega) (stp_k aR.1 hx r0.1 (fun _ => cb_i c166))) ⟨rfl, rfl, rfl, rfl, rfl, rfl, rfl, trivial⟩ | exact jr_sub (ih118 (i + 1) _ (by omega) (by omega) H1) ⟨rfl, rfl, rfl, rfl, rfl, rfl, rfl, trivial⟩
                  exact jr_sub (L118 _ 0 h (Nat.lt_succ_self _) (by omega) (stp_0 _ aR)) ⟨rfl, rfl, rfl, rfl, rfl, rfl, rfl, trivial⟩
          exact jr_sub (L104 _ z (-1) (Nat.lt_succ_self _) hz.1 (AN_anc hz) (fun t t0 t1 => hz.2.2 t t0 (by omega)) (by omega) (Or.inl rfl)) ⟨rfl, rfl, rfl, rfl, rfl, rfl, trivial⟩
        · skip
          have tt := i3.2 i (by omega) (by omega)
          have nn := i5 i (by omega) (by omega)
          have n3 : (tfa w i 0 = 1 ∨ tfa w i 0 = 2) ↔ tfa w i 3 = -1 := by omega
          have p1 := pw_10 (t := tfa w i 1) (by omega)
          refine jr_iload_n F dX8_floatsOf_22 rfl ?_
          refine jr_iload F dX8_floatsOf_23 rfl ?_
          refine jr_ishr F dX8_floatsOf_25 ?_
          refine jr_iconst F dX8_floatsOf_26 ?_
          refine jr_iand F dX8_floatsOf_27 ?_
          refine jr_top (z := (cb (blB w s e) i)) F (b_bit (by omega) (by omega)) ?_
          have cbR := cb_R (blB w s e) i
          have cb1 : cb (blB w s e) i = 1 ↔ inb (blB w s e) i := bi_eq1
          refine jr_iconst F dX8_floatsOf_28 ?_
          refine jr_icmp_ne (tgt := 64) F dX8_floatsOf_29 (by decide) (fun c29 => ?_) (fun c29 => ?_) (by omega) (by omega)
          · skip
            refine jr_iconst F dX8_floatsOf_64 ?_
            refine jr_istore F dX8_floatsOf_65 (Nat.le_of_ble_eq_true rfl) rfl ?_
            refine jr_iload F dX8_floatsOf_67 rfl ?_
            refine jr_iload F dX8_floatsOf_69 rfl ?_
            refine jr_if_eq (tgt := 91) F dX8_floatsOf_71 (by decide) (fun c71 => ?_) (fun c71 => ?_) (by omega)
            · skip
              refine jr_iconst F dX8_floatsOf_91 ?_
              try have KB1 : inb (blB w s e) i := cb1.mp (by omega)
              try have KN1 : ¬ (inb (blB w s e) i ∧ tfa w i 3 = -1) := fun q => by have q1 := cb1.mpr q.1; have q2 := n3.mpr q.2; omega
              refine jr_ior F dX8_floatsOf_92 ?_
              refine jr_top (z := z) F (or0 zR) ?_
              refine jr_istore F dX8_floatsOf_93 (Nat.le_of_ble_eq_true rfl) rfl ?_
              refine jr_iinc F dX8_floatsOf_95 rfl (Nat.le_of_ble_eq_true rfl) rfl ?_
              refine jr_goto (tgt := 13) F dX8_floatsOf_98 (by decide) ?_
              first | exact jr_sub (ih13 (i + 1) _ (by omega) (by omega) (AN_y hz i0.1 (by omega) KB1 (by omega) (by omega))) ⟨rfl, rfl, rfl, rfl, rfl, rfl, trivial⟩ | exact jr_sub (ih13 (i + 1) _ (by omega) (by omega) (AN_n hz KN1)) ⟨rfl, rfl, rfl, rfl, rfl, rfl, trivial⟩
            · exact absurd c71 (by omega)
          · skip
            refine jr_aload_n F dX8_floatsOf_32 rfl ?_
            refine jr_getR (t := 8) F dX8_floatsOf_33 fg_X8_31 (Nat.le_of_ble_eq_true rfl) rfl rfl ?_
            refine jr_bipush F dX8_floatsOf_36 (by decide) ?_
            refine jr_iload F dX8_floatsOf_38 rfl ?_
            refine jr_imul F dX8_floatsOf_40 ?_
            refine jr_iald F dX8_floatsOf_41 (Nat.le_of_ble_eq_true rfl) rfl (by omega) (fun q41 => ?_) (by omega) (by omega)
            have v41 : w3 8 ((7 * i)) = (tfa w i 0) := (rmT0 M3 (t := i) (by omega) (by omega))
            rw [v41] at q41
            refine jr_ti v41 ?_
            refine jr_iconst F dX8_floatsOf_42 ?_
            refine jr_icmp_eq (tgt := 60) F dX8_floatsOf_43 (by decide) (fun c43 => ?_) (fun c43 => ?_) (by omega) (by omega)
            · skip
              refine jr_iconst F dX8_floatsOf_60 ?_
              refine jr_goto (tgt := 65) F dX8_floatsOf_61 (by decide) ?_
              refine jr_istore F dX8_floatsOf_65 (Nat.le_of_ble_eq_true rfl) rfl ?_
              refine jr_iload F dX8_floatsOf_67 rfl ?_
              refine jr_iload F dX8_floatsOf_69 rfl ?_
              refine jr_if_eq (tgt := 91) F dX8_floatsOf_71 (by decide) (fun c71 => ?_) (fun c71 => ?_) (by omega)
              · exact absurd c71 (by omega)
              · skip
                refine jr_iconst F dX8_floatsOf_74 ?_
                refine jr_aload_n F dX8_floatsOf_75 rfl ?_
                refine jr_getR (t := 8) F dX8_floatsOf_76 fg_X8_31 (Nat.le_of_ble_eq_true rfl) rfl rfl ?_
                refine jr_bipush F dX8_floatsOf_79 (by decide) ?_
                refine jr_iload F dX8_floatsOf_81 rfl ?_
                refine jr_imul F dX8_floatsOf_83 ?_
                refine jr_iconst F dX8_floatsOf_84 ?_
                refine jr_iadd F dX8_floatsOf_85 ?_
                refine jr_iald F dX8_floatsOf_86 (Nat.le_of_ble_eq_true rfl) rfl (by omega) (fun q86 => ?_) (by omega) (by omega)
                have v86 : w3 8 (((7 * i) + 1)) = (tfa w i 1) := (rmT M3 (t := i) (f := 1) (by omega) (by omega) (by omega) (by omega))
                rw [v86] at q86
                refine jr_ti v86 ?_
                refine jr_ishl F dX8_floatsOf_87 ?_
                refine jr_top (z := (pw (tfa w i 1))) F (b_shl1 (by omega)) ?_
                refine jr_goto (tgt := 92) F dX8_floatsOf_88 (by decide) ?_
                try have KB1 : inb (blB w s e) i := cb1.mp (by omega)
                try have KN1 : ¬ (inb (blB w s e) i ∧ tfa w i 3 = -1) := fun q => by have q1 := cb1.mpr q.1; have q2 := n3.mpr q.2; omega
                refine jr_ior F dX8_floatsOf_92 ?_
                refine jr_top (z := (orb z (pw (tfa w i 1)))) F (b_orb (by omega) (by omega)) ?_
                refine jr_istore F dX8_floatsOf_93 (Nat.le_of_ble_eq_true rfl) rfl ?_
                refine jr_iinc F dX8_floatsOf_95 rfl (Nat.le_of_ble_eq_true rfl) rfl ?_
                refine jr_goto (tgt := 13) F dX8_floatsOf_98 (by decide) ?_
                first | exact jr_sub (ih13 (i + 1) _ (by omega) (by omega) (AN_y hz i0.1 (by omega) KB1 (by omega) (by omega))) ⟨rfl, rfl, rfl, rfl, rfl, rfl, trivial⟩ | exact jr_sub (ih13 (i + 1) _ (by omega) (by omega) (AN_n hz KN1)) ⟨rfl, rfl, rfl, rfl, rfl, rfl, trivial⟩
            · skip
              refine jr_aload_n F dX8_floatsOf_46 rfl ?_
              refine jr_getR (t := 8) F dX8_floatsOf_47 fg_X8_31 (Nat.le_of_ble_eq_true rfl) rfl rfl ?_
              refine jr_bipush F dX8_floatsOf_50 (by decide) ?_
              refine jr_iload F dX8_floatsOf_52 rfl ?_
              refine jr_imul F dX8_floatsOf_54 ?_
              refine jr_iald F dX8_floatsOf_55 (Nat.le_of_ble_eq_true rfl) rfl (by omega) (fun q55 => ?_) (by omega) (by omega)
              have v55 : w3 8 ((7 * i)) = (tfa w i 0) := (rmT0 M3 (t := i) (by omega) (by omega))
              rw [v55] at q55
              refine jr_ti v55 ?_
              refine jr_iconst F dX8_floatsOf_56 ?_
              refine jr_icmp_ne (tgt := 64) F dX8_floatsOf_57 (by decide) (fun c57 => ?_) (fun c57 => ?_) (by omega) (by omega)
              · skip
                refine jr_iconst F dX8_floatsOf_64 ?_
                refine jr_istore F dX8_floatsOf_65 (Nat.le_of_ble_eq_true rfl) rfl ?_
                refine jr_iload F dX8_floatsOf_67 rfl ?_
                refine jr_iload F dX8_floatsOf_69 rfl ?_
                refine jr_if_eq (tgt := 91) F dX8_floatsOf_71 (by decide) (fun c71 => ?_) (fun c71 => ?_) (by omega)
                · skip
                  refine jr_iconst F dX8_floatsOf_91 ?_
                  try have KB1 : inb (blB w s e) i := cb1.mp (by omega)
                  try have KN1 : ¬ (inb (blB w s e) i ∧ tfa w i 3 = -1) := fun q => by have q1 := cb1.mpr q.1; have q2 := n3.mpr q.2; omega
                  refine jr_ior F dX8_floatsOf_92 ?_
                  refine jr_top (z := z) F (or0 zR) ?_
                  refine jr_istore F dX8_floatsOf_93 (Nat.le_of_ble_eq_true rfl) rfl ?_
                  refine jr_iinc F dX8_floatsOf_95 rfl (Nat.le_of_ble_eq_true rfl) rfl ?_
                  refine jr_goto (tgt := 13) F dX8_floatsOf_98 (by decide) ?_
                  first | exact jr_sub (ih13 (i + 1) _ (by omega) (by omega) (AN_y hz i0.1 (by omega) KB1 (by omega) (by omega))) ⟨rfl, rfl, rfl, rfl, rfl, rfl, trivial⟩ | exact jr_sub (ih13 (i + 1) _ (by omega) (by omega) (AN_n hz KN1)) ⟨rfl, rfl, rfl, rfl, rfl, rfl, trivial⟩
                · exact absurd c71 (by omega)
              · skip
                refine jr_iconst F dX8_floatsOf_60 ?_
                refine jr_goto (tgt := 65) F dX8_floatsOf_61 (by decide) ?_
                refine jr_istore F dX8_floatsOf_65 (Nat.le_of_ble_eq_true rfl) rfl ?_
                refine jr_iload F dX8_floatsOf_67 rfl ?_
                refine jr_iload F dX8_floatsOf_69 rfl ?_
                refine jr_if_eq (tgt := 91) F dX8_floatsOf_71 (by decide) (fun c71 => ?_) (fun c71 => ?_) (by omega)
                · exact absurd c71 (by omega)
                · skip
                  refine jr_iconst F dX8_floatsOf_74 ?_
                  refine jr_aload_n F dX8_floatsOf_75 rfl ?_
                  refine jr_getR (t := 8) F dX8_floatsOf_76 fg_X8_31 (Nat.le_of_ble_eq_true rfl) rfl rfl ?_
                  refine jr_bipush F dX8_floatsOf_79 (by decide) ?_
                  refine jr_iload F dX8_floatsOf_81 rfl ?_
                  refine jr_imul F dX8_floatsOf_83 ?_
                  refine jr_iconst F dX8_floatsOf_84 ?_
                  refine jr_iadd F dX8_floatsOf_85 ?_
                  refine jr_iald F dX8_floatsOf_86 (Nat.le_of_ble_eq_true rfl) rfl (by omega) (fun q86 => ?_) (by omega) (by omega)
                  have v86 : w3 8 (((7 * i) + 1)) = (tfa w i 1) := (rmT M3 (t := i) (f := 1) (by omega) (by omega) (by omega) (by omega))
                  rw [v86] at q86
                  refine jr_ti v86 ?_
                  refine jr_ishl F dX8_floatsOf_87 ?_
                  refine jr_top (z := (pw (tfa w i 1))) F (b_shl1 (by omega)) ?_
                  refine jr_goto (tgt := 92) F dX8_floatsOf_88 (by decide) ?_
                  try have KB1 : inb (blB w s e) i := cb1.mp (by omega)
                  try have KN1 : ¬ (inb (blB w s e) i ∧ tfa w i 3 = -1) := fun q => by have q1 := cb1.mpr q.1; have q2 := n3.mpr q.2; omega
                  refine jr_ior F dX8_floatsOf_92 ?_
                  refine jr_top (z := (orb z (pw (tfa w i 1)))) F (b_orb (by omega) (by omega)) ?_
                  refine jr_istore F dX8_floatsOf_93 (Nat.le_of_ble_eq_true rfl) rfl ?_
                  refine jr_iinc F dX8_floatsOf_95 rfl (Nat.le_of_ble_eq_true rfl) rfl ?_
                  refine jr_goto (tgt := 13) F dX8_floatsOf_98 (by decide) ?_
                  first | exact jr_sub (ih13 (i + 1) _ (by omega) (by omega) (AN_y hz i0.1 (by omega) KB1 (by omega) (by omega))) ⟨rfl, rfl, rfl, rfl, rfl, rfl, trivial⟩ | exact jr_sub (ih13 (i + 1) _ (by omega) (by omega) (AN_n hz KN1)) ⟨rfl, rfl, rfl, rfl, rfl, rfl, trivial⟩
  exact jr_sub (L13 _ 0 0 (Nat.lt_succ_self _) (by omega) (AN_0 _ _)) ⟨rfl, rfl, rfl, rfl, rfl, rfl, trivial⟩

set_option maxRecDepth 100000 in
set_option maxHeartbeats 4000000 in
theorem c_X8_floats {B : Bs} {w m : Wd} {s e : Int} (hM : RM w m) (hI : IM w) (hs : inR s) (he : inR e) : Sp (GM B) 6 yX8_floats cX8_floats 3 (Option.some FieldType.int) [.ref (ga (GM B) (0)), iv (s), iv (e)] m (pE (fun x u => x = flqw w s e ∧ wk m u)) := by
  refine Sp.of (by decide) (Nat.le_of_ble_eq_true rfl) (fun X F => ?_)
  obtain ⟨⟨i1, i2, i3, i4, i5⟩, ⟨i6, i7⟩, i8, i9, i10, ⟨i11, i12⟩, i13⟩ := id hI
  have n10 := i1.1
  have h3 := i1.1
  have n8 := i3.1
  have n6 := i4.1
  show Jw (GM B) X _ 0 [some (.ref (ga (GM B) (0))), some (iv (s)), some (iv (e))] [] m
  refine jr_iload_n F dX8_floats_0 rfl ?_
  refine jr_sI F dX8_floats_1 cs_X8_160 (c_X8_isSchool (by omega)) rfl (Nat.le_of_ble_eq_true rfl) (Nat.le_of_ble_eq_true rfl) rfl (Nat.le_of_ble_eq_true rfl) ?_
  refine jr_ifne_b (tgt := 12) F dX8_floats_4 (by decide) (fun c4 => ?_) (fun c4 => ?_)
  · skip
    refine jr_iload_n F dX8_floats_12 rfl ?_
    refine jr_sI F dX8_floats_13 cs_X8_92 (c_X8_isEdition (by omega)) rfl (Nat.le_of_ble_eq_true rfl) (Nat.le_of_ble_eq_true rfl) rfl (Nat.le_of_ble_eq_true rfl) ?_
    refine jr_ifeq_b (tgt := 28) F dX8_floats_16 (by decide) (fun c16 => ?_) (fun c16 => ?_)
    · skip
      refine jr_bipush F dX8_floats_28 (by decide) ?_
      first | exact jr_iret F dX8_floats_30 (pE_of ⟨by unfold flqw; rw [refq_y c4 c16, if_pos rfl]; exact h22.1, h22.2⟩) | exact jr_iret F dX8_floats_30 (pE_of ⟨by unfold flqw; rw [refq_e c4 c16, if_neg (by omega)], wk_r m⟩) | exact jr_iret F dX8_floats_30 (pE_of ⟨by unfold flqw; rw [refq_s c4, if_neg (by omega)], wk_r m⟩)
    · skip
      refine jr_aload_n F dX8_floats_19 rfl ?_
      refine jr_iload_n F dX8_floats_20 rfl ?_
      refine jr_iload_n F dX8_floats_21 rfl ?_
      refine jr_vE F dX8_floats_22 cv_X8_231 (c_X8_floatsOf hM hI c4 c16) (Nat.le_of_ble_eq_true rfl) rfl rfl rfl rfl (Nat.le_of_ble_eq_true rfl) (Nat.le_of_ble_eq_true rfl) rfl (Nat.le_of_ble_eq_true rfl) (fun r22 w22 h22 => ?_)
      refine jr_goto (tgt := 30) F dX8_floats_25 (by decide) ?_
      first | exact jr_iret F dX8_floats_30 (pE_of ⟨by unfold flqw; rw [refq_y c4 c16, if_pos rfl]; exact h22.1, h22.2⟩) | exact jr_iret F dX8_floats_30 (pE_of ⟨by unfold flqw; rw [refq_e c4 c16, if_neg (by omega)], wk_r m⟩) | exact jr_iret F dX8_floats_30 (pE_of ⟨by unfold flqw; rw [refq_s c4, if_neg (by omega)], wk_r m⟩)
  · skip
    refine jr_bipush F dX8_floats_7 (by decide) ?_
    refine jr_goto (tgt := 30) F dX8_floats_9 (by decide) ?_
    first | exact jr_iret F dX8_floats_30 (pE_of ⟨by unfold flqw; rw [refq_y c4 c16, if_pos rfl]; exact h22.1, h22.2⟩) | exact jr_iret F dX8_floats_30 (pE_of ⟨by unfold flqw; rw [refq_e c4 c16, if_neg (by omega)], wk_r m⟩) | exact jr_iret F dX8_floats_30 (pE_of ⟨by unfold flqw; rw [refq_s c4, if_neg (by omega)], wk_r m⟩)

