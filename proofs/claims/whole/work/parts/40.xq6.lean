/-- alike but for the first cell, and what calls work with -/
def sr (w u : Wd) : Prop := ∀ k, k ≠ 0 → k ≠ 17 → k < 20 → u k = w k
theorem sr_rd {w u : Wd} (h : sr w u) {k : Nat} (z : k ≠ 0) (a : k ≠ 17) (b : k < 20) (n : Int) : rd u k n = rd w k n := by funext i; exact rd_c (h k z a b) n i
theorem sr_Lad {w u : Wd} (h : sr w u) : Lad u = Lad w := cell_Lad (h 1 (by decide) (by decide) (by decide)) (h 2 (by decide) (by decide) (by decide)) (h 5 (by decide) (by decide) (by decide)) (h 6 (by decide) (by decide) (by decide)) (h 7 (by decide) (by decide) (by decide)) (h 9 (by decide) (by decide) (by decide))
theorem sr_fa {w u : Wd} (h : sr w u) : fa u = fa w := cell_fa (h 2 (by decide) (by decide) (by decide))
theorem sr_tfa {w u : Wd} (h : sr w u) : tfa u = tfa w := cell_tfa (h 6 (by decide) (by decide) (by decide))
theorem sr_knw {w u : Wd} (h : sr w u) : knw u = knw w := by funext r e; unfold knw; rw [sr_fa h, h 1 (by decide) (by decide) (by decide)]
theorem sr_say {w u : Wd} (h : sr w u) : sayw u = sayw w := by
  funext s o act d
  unfold sayw say0 say1
  rw [sr_rd h (by decide) (by decide) (by decide), sr_rd h (by decide) (by decide) (by decide), sr_rd h (by decide) (by decide) (by decide), sr_rd h (by decide) (by decide) (by decide), h 11 (by decide) (by decide) (by decide), h 14 (by decide) (by decide) (by decide)]
theorem sr_cnt {w u : Wd} (h : sr w u) : cntw u = cntw w := by funext s r; unfold cntw; rw [sr_say h, sr_fa h]
theorem sr_blf {w u : Wd} (h : sr w u) : blfw u = blfw w := by funext s r; unfold blfw; rw [sr_say h, sr_fa h, sr_tfa h]
theorem sr_blS {w u : Wd} (h : sr w u) : blS u = blS w := by funext s e t; unfold blS; rw [sr_tfa h, sr_knw h, sr_blf h]
theorem sr_blB {w u : Wd} (h : sr w u) : blB u = blB w := by funext s e; unfold blB; rw [sr_blS h, h 5 (by decide) (by decide) (by decide)]
theorem sr_cnS {w u : Wd} (h : sr w u) : cnS u = cnS w := by funext s; unfold cnS; rw [sr_cnt h, h 1 (by decide) (by decide) (by decide)]
theorem sr_SOK {w u : Wd} (h : sr w u) (s : SOK w) : SOK u := by
  unfold SOK
  rw [sr_rd h (by decide) (by decide) (by decide), sr_rd h (by decide) (by decide) (by decide), sr_rd h (by decide) (by decide) (by decide), sr_rd h (by decide) (by decide) (by decide), sr_tfa h, h 1 (by decide) (by decide) (by decide), h 5 (by decide) (by decide) (by decide), h 11 (by decide) (by decide) (by decide), h 14 (by decide) (by decide) (by decide)]
  exact s
theorem sr_QI {w u : Wd} (h : sr w u) (q : QI w) : QI u := by
  obtain ⟨q1, q2, q3, q4, q5, q6, q7, q8⟩ := q
  have c1 := h 1 (by decide) (by decide) (by decide)
  have c2 := h 2 (by decide) (by decide) (by decide)
  have c5 := h 5 (by decide) (by decide) (by decide)
  have c6 := h 6 (by decide) (by decide) (by decide)
  have c7 := h 7 (by decide) (by decide) (by decide)
  have c8 := h 8 (by decide) (by decide) (by decide)
  have c9 := h 9 (by decide) (by decide) (by decide)
  refine ⟨sr_SOK h q1, cell_RI c1 c2 q2, cell_INJ c1 c2 q3, cell_M3 c1 c2 q4, cell_TI c1 c5 c6 c7 q5, cell_SK2 c5 c6 q6, ?_, ?_⟩
  · unfold WI; rw [c1, c8, cell_wfa c9]; exact ⟨q7.1, fun t a b => ⟨cell_smW c9 (q7.2 t a b).1, (q7.2 t a b).2⟩⟩
  · rw [sr_cnt h, c1]; exact q8
theorem sr_LQ {w u : Wd} (h : sr w u) : LQ u = LQ w := by funext s e b wi; unfold LQ; rw [sr_Lad h, sr_cnS h]
theorem sr_hasL {w u : Wd} (h : sr w u) : hasL u = hasL w := by funext s e b wi; unfold hasL; rw [sr_LQ h]
theorem sr_spn {w u : Wd} (h : sr w u) : spn u = spn w := by funext s e b wi r side; unfold spn; rw [sr_LQ h, sr_hasL h, sr_knw h]
noncomputable def cnq (P : Int → Prop) : Nat → Int
  | 0 => 0
  | n + 1 => cnq P n + @ite _ (P (n : Nat)) (Classical.propDecidable _) 1 0
noncomputable def frq (P : Int → Prop) : Nat → Int
  | 0 => -1
  | n + 1 => @ite _ (P (n : Nat) ∧ cnq P n = 0) (Classical.propDecidable _) (n : Nat) (frq P n)
theorem cnq_y {P : Int → Prop} {i : Int} (h0 : 0 ≤ i) (h : P i) : cnq P (i + 1).toNat = cnq P i.toNat + 1 := by
  rw [show (i + 1).toNat = i.toNat + 1 by omega, cnq, Int.toNat_of_nonneg h0, if_pos h]
theorem cnq_n {P : Int → Prop} {i : Int} (h0 : 0 ≤ i) (h : ¬ P i) : cnq P (i + 1).toNat = cnq P i.toNat := by
  rw [show (i + 1).toNat = i.toNat + 1 by omega, cnq, Int.toNat_of_nonneg h0, if_neg h, Int.add_zero]
theorem frq_y {P : Int → Prop} {i : Int} (h0 : 0 ≤ i) (h : P i) (hc : cnq P i.toNat = 0) : frq P (i + 1).toNat = i := by
  rw [show (i + 1).toNat = i.toNat + 1 by omega, frq, Int.toNat_of_nonneg h0, if_pos ⟨h, hc⟩]
theorem frq_n {P : Int → Prop} {i : Int} (h0 : 0 ≤ i) (h : ¬ (P i ∧ cnq P i.toNat = 0)) : frq P (i + 1).toNat = frq P i.toNat := by
  rw [show (i + 1).toNat = i.toNat + 1 by omega, frq, Int.toNat_of_nonneg h0, if_neg h]
theorem cnq_R (P : Int → Prop) : ∀ n : Nat, 0 ≤ cnq P n ∧ cnq P n ≤ n
  | 0 => by unfold cnq; omega
  | n + 1 => by have := cnq_R P n; unfold cnq; split <;> omega
theorem cnq_R2 {P : Int → Prop} {i m : Int} (h0 : 0 ≤ i) (h1 : i ≤ m) : 0 ≤ cnq P i.toNat ∧ cnq P i.toNat ≤ m := by
  have := cnq_R P i.toNat
  omega
theorem pw_8 {t : Int} (h : t ≤ 8) : 1 ≤ pw t ∧ pw t ≤ 256 := by
  have h1 : (2 : Nat) ^ t.toNat ≤ 2 ^ 8 := Nat.pow_le_pow_right (by omega) (by omega)
  have h2 : 0 < (2 : Nat) ^ t.toNat := Nat.two_pow_pos _
  unfold pw
  generalize (2 : Nat) ^ t.toNat = p at h1 h2 ⊢
  omega
/-- doubting these ties leaves a ladder -/
def dbP (w : Wd) (s e b z d : Int) : Prop := dfb d b = 0 ∧ pcn d = z ∧ hasL w s e (dfb b d) (-1)
noncomputable def dbs (w : Wd) (s e b what : Int) : Nat → Int → Int
  | 0, _ => -1
  | f + 1, z => if 0 < cnq (dbP w s e b z) (pw (w 5 3)).toNat then (if what = 0 then frq (dbP w s e b z) (pw (w 5 3)).toNat else cnq (dbP w s e b z) (pw (w 5 3)).toNat - 1) else dbs w s e b what f (z + 1)
noncomputable def dbdw (w : Wd) (s e b what : Int) : Int := dbs w s e b what (w 5 3 + 1).toNat 0
theorem sr_dbd {w u : Wd} (h : sr w u) : dbdw u = dbdw w := by
  have e : dbP u = dbP w := by funext s e b z d; unfold dbP; rw [sr_hasL h]
  have g : ∀ s e b what f z, dbs u s e b what f z = dbs w s e b what f z := by
    intro s x b what f
    induction f with
    | zero => intro z; rfl
    | succ f ih => intro z; rw [dbs, dbs, ih, e, h 5 (by decide) (by decide) (by decide)]
  funext s x b what
  unfold dbdw
  rw [g, h 5 (by decide) (by decide) (by decide)]
noncomputable def dbqw (w : Wd) (s e what : Int) : Int := if refq s e = 0 then (if ¬ (0 ≤ what ∧ what ≤ 1) then -102 else if w 0 8 < 10 then dbdw w s e (blB w s e) what else -103) else refq s e
noncomputable def dbqW (w : Wd) (s e what : Int) : Wd := if refq s e = 0 ∧ (0 ≤ what ∧ what ≤ 1) ∧ w 0 8 < 10 then up w 0 8 (w 0 8 + 1) else w

set_option maxRecDepth 100000 in
set_option maxHeartbeats 4000000 in
theorem c_X7_doubted {B : Bs} {w u : Wd} {s e b what : Int} (hQ : QI w) (hD : LD w u s e) (he : 0 ≤ e ∧ e ≤ 9) (hb : 0 ≤ b ∧ b ≤ 255) (hwh : 0 ≤ what ∧ what ≤ 1) : Sp (GX B) 6 yX7_doubted cX7_doubted 8 (Option.some FieldType.int) [.ref (ga (GX B) (0)), iv (b), iv (what)] u (pE (fun x y => x = dbdw w s e b what ∧ LD w y s e)) := by
  refine Sp.of (by decide) (Nat.le_of_ble_eq_true rfl) (fun X F => ?_)
  have n10 := hQ.2.1.1
  have n8 := hQ.2.2.2.2.1.1
  have p8 := pw_8 n8.2
  show Jw (GX B) X _ 0 [some (.ref (ga (GX B) (0))), some (iv (b)), some (iv (what))] [] u
  refine jr_iconst F dX7_doubted_0 ?_
  refine jr_istore_n F dX7_doubted_1 (Nat.le_of_ble_eq_true rfl) rfl ?_
  have L2 : ∀ (fuel : Nat) (x : Wd) (z : Int), (w 5 3 + 1 - z).toNat < fuel → (0 ≤ z) → (z ≤ w 5 3 + 1) → (LD w x s e) → (dbdw w s e b what = dbs w s e b what (w 5 3 + 1 - z).toNat z) → Jw (GX B) X (pE (fun x y => x = dbdw w s e b what ∧ LD w y s e)) 2 [some (.ref (ga (GX B) 0)), some (iv b), some (iv what), some (iv z)] [] x := by
    intro fuel
    induction fuel with
    | zero => intro x z hfuel; exact absurd hfuel (Nat.not_lt_zero _)
    | succ fuel ih2 =>
        intro x z hfuel h0 h1 hx hr
        refine jr_iload_n F dX7_doubted_2 rfl ?_
        refine jr_aload_n F dX7_doubted_3 rfl ?_
        refine jr_getR (t := 5) F dX7_doubted_4 fg_X7_21 (Nat.le_of_ble_eq_true rfl) rfl rfl ?_
        refine jr_vI F dX7_doubted_7 cv_X7_139 (c_X6_size_5) (Nat.le_of_ble_eq_true rfl) rfl rfl rfl rfl (Nat.le_of_ble_eq_true rfl) (Nat.le_of_ble_eq_true rfl) rfl (Nat.le_of_ble_eq_true rfl) ?_
        refine jr_ti (b := (w 5 3)) (congrFun (hx.1 5 (by decide) (by decide)) 3) ?_
        refine jr_icmp_gt (tgt := 132) F dX7_doubted_10 (by decide) (fun c10 => ?_) (fun c10 => ?_) (by omega) (by omega)
        · skip
          refine jr_iconst F dX7_doubted_132 ?_
          exact jr_iret F dX7_doubted_133 (pE_of ⟨by rw [hr, show (w 5 3 + 1 - z).toNat = 0 by omega]; rfl, hx⟩)
        · skip
          refine jr_iconst F dX7_doubted_13 ?_
          refine jr_istore F dX7_doubted_14 (Nat.le_of_ble_eq_true rfl) rfl ?_
          refine jr_iconst F dX7_doubted_16 ?_
          refine jr_istore F dX7_doubted_17 (Nat.le_of_ble_eq_true rfl) rfl ?_
          refine jr_iconst F dX7_doubted_19 ?_
          refine jr_istore F dX7_doubted_20 (Nat.le_of_ble_eq_true rfl) rfl ?_
          have L22 : ∀ (fuel : Nat) (y : Wd) (fo : Int) (fi : Int) (d : Int), (pw (w 5 3) - d).toNat < fuel → (0 ≤ d) → (d ≤ pw (w 5 3)) → (LD w y s e) → (fo = cnq (dbP w s e b z) d.toNat) → (fi = frq (dbP w s e b z) d.toNat) → Jw (GX B) X (pE (fun x y => x = dbdw w s e b what ∧ LD w y s e)) 22 [some (.ref (ga (GX B) 0)), some (iv b), some (iv what), some (iv z), some (iv fo), some (iv fi), some (iv d)] [] y := by
            intro fuel
            induction fuel with
            | zero => intro y fo fi d hfuel; exact absurd hfuel (Nat.not_lt_zero _)
            | succ fuel ih22 =>
                intro y fo fi d hfuel g0 g1 hy hf hg
                have fR := cnq_R2 (P := (dbP w s e b z)) g0 g1
                have pR : 0 ≤ pcn d ∧ pcn d ≤ 8 := bcx_R d 8
                refine jr_iload F dX7_doubted_22 rfl ?_
                refine jr_iconst F dX7_doubted_24 ?_
                refine jr_aload_n F dX7_doubted_25 rfl ?_
                refine jr_getR (t := 5) F dX7_doubted_26 fg_X7_21 (Nat.le_of_ble_eq_true rfl) rfl rfl ?_
                refine jr_vI F dX7_doubted_29 cv_X7_139 (c_X6_size_5) (Nat.le_of_ble_eq_true rfl) rfl rfl rfl rfl (Nat.le_of_ble_eq_true rfl) (Nat.le_of_ble_eq_true rfl) rfl (Nat.le_of_ble_eq_true rfl) ?_
                refine jr_ti (b := (w 5 3)) (congrFun (hy.1 5 (by decide) (by decide)) 3) ?_
                refine jr_ishl F dX7_doubted_32 ?_
                refine jr_top (z := pw (w 5 3)) F (b_shl1 (by omega)) ?_
                refine jr_icmp_ge (tgt := 107) F dX7_doubted_33 (by decide) (fun c33 => ?_) (fun c33 => ?_) (by omega) (by omega)
                · skip
                  obtain rfl : d = pw (w 5 3) := by omega
                  refine jr_iload F dX7_doubted_107 rfl ?_
                  refine jr_if_le (tgt := 126) F dX7_doubted_109 (by decide) (fun c109 => ?_) (fun c109 => ?_) (by omega)
                  · skip
                    refine jr_iinc F dX7_doubted_126 rfl (Nat.le_of_ble_eq_true rfl) rfl ?_
                    refine jr_goto (tgt := 2) F dX7_doubted_129 (by decide) ?_
                    exact jr_sub (ih2 _ (z + 1) (by omega) (by omega) (by omega) hy (by rw [hr, show (w 5 3 + 1 - z).toNat = (w 5 3 + 1 - (z + 1)).toNat + 1 by omega, dbs, if_neg (by rw [← hf]; omega)])) ⟨rfl, rfl, rfl, rfl, trivial⟩
                  · skip
                    refine jr_iload_n F dX7_doubted_112 rfl ?_
                    refine jr_if_ne (tgt := 121) F dX7_doubted_113 (by decide) (fun c113 => ?_) (fun c113 => ?_) (by omega)
                    · skip
                      refine jr_iload F dX7_doubted_121 rfl ?_
                      refine jr_iconst F dX7_doubted_123 ?_
                      refine jr_isub F dX7_doubted_124 ?_
                      exact jr_iret F dX7_doubted_125 (pE_of ⟨by rw [hr, show (w 5 3 + 1 - z).toNat = (w 5 3 - z).toNat + 1 by omega, dbs, if_pos (by rw [← hf]; omega), if_neg c113, hf], hy⟩)
                    · skip
                      refine jr_iload F dX7_doubted_116 rfl ?_
                      refine jr_goto (tgt := 125) F dX7_doubted_118 (by decide) ?_
                      exact jr_iret F dX7_doubted_125 (pE_of ⟨by rw [hr, show (w 5 3 + 1 - z).toNat = (w 5 3 - z).toNat + 1 by omega, dbs, if_pos (by rw [← hf]; omega), if_pos (by omega), hg], hy⟩)
                · skip
                  refine jr_iload F dX7_doubted_36 rfl ?_
                  refine jr_iload_n F dX7_doubted_38 rfl ?_
                  refine jr_iconst F dX7_doubted_39 ?_
                  refine jr_ixor F dX7_doubted_40 ?_
                  refine jr_iand F dX7_doubted_41 ?_
                  refine jr_top (z := dfb d b) F (b_andn (by omega) (by omega)) ?_
                  refine jr_if_ne (tgt := 58) F dX7_doubted_42 (by decide) (fun c42 => ?_) (fun c42 => ?_) (by have := dfb_le (a := d) b (by omega); omega)
                  · skip
                    refine jr_iconst F dX7_doubted_58 ?_
                    refine jr_istore F dX7_doubted_59 (Nat.le_of_ble_eq_true rfl) rfl ?_
                    refine jr_iload F dX7_doubted_61 rfl ?_
                    refine jr_if_eq (tgt := 101) F dX7_doubted_63 (by decide) (fun c63 => ?_) (fun c63 => ?_) (by omega)
                    · skip
                      refine jr_iinc F dX7_doubted_101 rfl (Nat.le_of_ble_eq_true rfl) rfl ?_
                      refine jr_goto (tgt := 22) F dX7_doubted_104 (by decide) ?_
                      exact jr_sub (ih22 _ _ _ (d + 1) (by omega) (by omega) (by omega) hy (by rw [hf, cnq_n g0 (fun q => c42 q.1)]) (by rw [hg, frq_n g0 (fun q => c42 q.1.1)])) ⟨rfl, rfl, rfl, rfl, rfl, rfl, rfl, trivial⟩
                    · exact absurd c63 (by omega)
                  · skip
                    refine jr_iload F dX7_doubted_45 rfl ?_
                    refine jr_sI F dX7_doubted_47 cs_X7_276 (c_J_bitCount (by omega)) rfl (Nat.le_of_ble_eq_true rfl) (Nat.le_of_ble_eq_true rfl) rfl (Nat.le_of_ble_eq_true rfl) ?_
                    refine jr_iload_n F dX7_doubted_50 rfl ?_
                    refine jr_icmp_ne (tgt := 58) F dX7_doubted_51 (by decide) (fun c51 => ?_) (fun c51 => ?_) (by omega) (by omega)
                    · skip
                      refine jr_iconst F dX7_doubted_58 ?_
                      refine jr_istore F dX7_doubted_59 (Nat.le_of_ble_eq_true rfl) rfl ?_
                      refine jr_iload F dX7_doubted_61 rfl ?_
                      refine jr_if_eq (tgt := 101) F dX7_doubted_63 (by decide) (fun c63 => ?_) (fun c63 => ?_) (by omega)
                      · skip
                        refine jr_iinc F dX7_doubted_101 rfl (Nat.le_of_ble_eq_true rfl) rfl ?_
                        refine jr_goto (tgt := 22) F dX7_doubted_104 (by decide) ?_
                        exact jr_sub (ih22 _ _ _ (d + 1) (by omega) (by omega) (by omega) hy (by rw [hf, cnq_n g0 (fun q => c51 q.2.1)]) (by rw [hg, frq_n g0 (fun q => c51 q.1.2.1)])) ⟨rfl, rfl, rfl, rfl, rfl, rfl, rfl, trivial⟩
                      · exact absurd c63 (by omega)
                    · skip
                      refine jr_iconst F dX7_doubted_54 ?_
                      refine jr_goto (tgt := 59) F dX7_doubted_55 (by decide) ?_
                      refine jr_istore F dX7_doubted_59 (Nat.le_of_ble_eq_true rfl) rfl ?_
                      refine jr_iload F dX7_doubted_61 rfl ?_
                      refine jr_if_eq (tgt := 101) F dX7_doubted_63 (by decide) (fun c63 => ?_) (fun c63 => ?_) (by omega)
                      · exact absurd c63 (by omega)
                      · skip
                        refine jr_aload_n F dX7_doubted_66 rfl ?_
                        refine jr_getR (t := 20) F dX7_doubted_67 fg_X7_57 (Nat.le_of_ble_eq_true rfl) rfl rfl ?_
                        refine jr_iload_n F dX7_doubted_70 rfl ?_
                        refine jr_iload F dX7_doubted_71 rfl ?_
                        refine jr_iconst F dX7_doubted_73 ?_
                        refine jr_ixor F dX7_doubted_74 ?_
                        refine jr_iand F dX7_doubted_75 ?_
                        refine jr_top (z := dfb b d) F (b_andn (by omega) (by omega)) ?_
                        refine jr_iconst F dX7_doubted_76 ?_
                        refine jr_iconst F dX7_doubted_77 ?_
                        refine jr_vB F dX7_doubted_78 cv_X7_192 (c_qfind0 hQ hy (by have := dfb_le (a := b) d (by omega); omega) (Or.inl rfl)) (Nat.le_of_ble_eq_true rfl) rfl rfl rfl rfl (Nat.le_of_ble_eq_true rfl) (Nat.le_of_ble_eq_true rfl) rfl (Nat.le_of_ble_eq_true rfl) (fun w78 h78 => ?_)
                        refine jr_ifeq_b (tgt := 101) F dX7_doubted_81 (by decide) (fun c81 => ?_) (fun c81 => ?_)
                        · skip
                          refine jr_iinc F dX7_doubted_101 rfl (Nat.le_of_ble_eq_true rfl) rfl ?_
                          refine jr_goto (tgt := 22) F dX7_doubted_104 (by decide) ?_
                          exact jr_sub (ih22 _ _ _ (d + 1) (by omega) (by omega) (by omega) h78 (by rw [hf, cnq_n g0 (fun q => c81 q.2.2)]) (by rw [hg, frq_n g0 (fun q => c81 q.1.2.2)])) ⟨rfl, rfl, rfl, rfl, rfl, rfl, rfl, trivial⟩
                        · skip
                          have hP : dbP w s e b z d := ⟨by omega, by omega, c81⟩
                          refine jr_iload F dX7_doubted_84 rfl ?_
                          refine jr_if_ne (tgt := 94) F dX7_doubted_86 (by decide) (fun c86 => ?_) (fun c86 => ?_) (by omega)
                          · skip
                            refine jr_iload F dX7_doubted_94 rfl ?_
                            refine jr_istore F dX7_doubted_96 (Nat.le_of_ble_eq_true rfl) rfl ?_
                            refine jr_iinc F dX7_doubted_98 rfl (Nat.le_of_ble_eq_true rfl) rfl ?_
                            refine jr_iinc F dX7_doubted_101 rfl (Nat.le_of_ble_eq_true rfl) rfl ?_
                            refine jr_goto (tgt := 22) F dX7_doubted_104 (by decide) ?_
                            exact jr_sub (ih22 _ _ _ (d + 1) (by omega) (by omega) (by omega) h78 (by rw [hf, cnq_y g0 hP]) (by rw [hg, frq_n g0 (fun q => c86 (by rw [hf]; exact q.2))])) ⟨rfl, rfl, rfl, rfl, rfl, rfl, rfl, trivial⟩
                          · skip
                            refine jr_iload F dX7_doubted_89 rfl ?_
                            refine jr_goto (tgt := 96) F dX7_doubted_91 (by decide) ?_
                            refine jr_istore F dX7_doubted_96 (Nat.le_of_ble_eq_true rfl) rfl ?_
                            refine jr_iinc F dX7_doubted_98 rfl (Nat.le_of_ble_eq_true rfl) rfl ?_
                            refine jr_iinc F dX7_doubted_101 rfl (Nat.le_of_ble_eq_true rfl) rfl ?_
                            refine jr_goto (tgt := 22) F dX7_doubted_104 (by decide) ?_
                            exact jr_sub (ih22 _ _ _ (d + 1) (by omega) (by omega) (by omega) h78 (by rw [hf, cnq_y g0 hP]) (by rw [frq_y g0 hP (by rw [← hf]; omega)])) ⟨rfl, rfl, rfl, rfl, rfl, rfl, rfl, trivial⟩
          exact jr_sub (L22 _ _ 0 (-1) 0 (Nat.lt_succ_self _) (by omega) (by omega) hx rfl rfl) ⟨rfl, rfl, rfl, rfl, rfl, rfl, rfl, trivial⟩
  exact jr_sub (L2 _ _ 0 (Nat.lt_succ_self _) (by omega) (by omega) hD (by rw [Int.sub_zero]; rfl)) ⟨rfl, rfl, rfl, rfl, trivial⟩

set_option maxRecDepth 100000 in
set_option maxHeartbeats 4000000 in
theorem c_X7_doubt {B : Bs} {w : Wd} {s e what : Int} (hQ : QI w) (hs : inR s) (he : inR e) (hwh : inR what) : Sp (GX B) 7 yX7_doubt cX7_doubt 5 (Option.some FieldType.int) [.ref (ga (GX B) (0)), iv (s), iv (e), iv (what)] w (pE (fun x u => x = dbqw w s e what ∧ sq (dbqW w s e what) u)) := by
  refine Sp.of (by decide) (Nat.le_of_ble_eq_true rfl) (fun X F => ?_)
  have hB := blB_R hQ.2.2.2.2.1 s e
  have n10 := hQ.2.1.1
  show Jw (GX B) X _ 0 [some (.ref (ga (GX B) (0))), some (iv (s)), some (iv (e)), some (iv (what))] [] w
  refine jr_iload_n F dX7_doubt_0 rfl ?_
  refine jr_iload_n F dX7_doubt_1 rfl ?_
  refine jr_sI F dX7_doubt_2 cs_X7_186 (c_X7_refusal (by omega) (by omega)) rfl (Nat.le_of_ble_eq_true rfl) (Nat.le_of_ble_eq_true rfl) rfl (Nat.le_of_ble_eq_true rfl) ?_
  refine jr_ti (b := (refq s e)) rfl ?_
  have rR := refq_R s e
  refine jr_istore F dX7_doubt_5 (Nat.le_of_ble_eq_true rfl) rfl ?_
  refine jr_iload F dX7_doubt_7 rfl ?_
  refine jr_if_eq (tgt := 15) F dX7_doubt_9 (by decide) (fun c9 => ?_) (fun c9 => ?_) (by omega)
  · skip
    have h7 := refq_0 c9
    refine jr_iload_n F dX7_doubt_15 rfl ?_
    refine jr_iconst F dX7_doubt_16 ?_
    refine jr_iconst F dX7_doubt_17 ?_
    refine jr_sI F dX7_doubt_18 cs_X7_65 (c_X7_within (by omega) (by omega) (by omega)) rfl (Nat.le_of_ble_eq_true rfl) (Nat.le_of_ble_eq_true rfl) rfl (Nat.le_of_ble_eq_true rfl) ?_
    refine jr_ifne_b (tgt := 27) F dX7_doubt_21 (by decide) (fun c21 => ?_) (fun c21 => ?_)
    · skip
      refine jr_aload_n F dX7_doubt_27 rfl ?_
      refine jr_getIx F (w 0 8) dX7_doubt_28 fg_X7_61 (Nat.le_of_ble_eq_true rfl) rfl rfl rfl (fun q28 => ?_)
      refine jr_bipush F dX7_doubt_31 (by decide) ?_
      refine jr_icmp_lt (tgt := 39) F dX7_doubt_33 (by decide) (fun c33 => ?_) (fun c33 => ?_) (by omega) (by omega)
      · skip
        refine jr_aload_n F dX7_doubt_39 rfl ?_
        refine jr_dup F dX7_doubt_40 rfl ?_
        refine jr_getIx F (w 0 8) dX7_doubt_41 fg_X7_61 (Nat.le_of_ble_eq_true rfl) rfl rfl rfl (fun q41 => ?_)
        refine jr_iconst F dX7_doubt_44 ?_
        refine jr_iadd F dX7_doubt_45 ?_
        refine jr_putIx F dX7_doubt_46 fp_X7_61 (Nat.le_of_ble_eq_true rfl) rfl rfl (by omega) (fun w46 e46 => ?_)
        have s46 : sr w w46 := fun k a _ _ => by rw [e46, up_cell a]
        have Q2 := sr_QI s46 hQ
        have eW : dbqW w s e what = w46 := by unfold dbqW; rw [if_pos ⟨c9, c21, by omega⟩, e46]; rfl
        refine jr_aload_n F dX7_doubt_49 rfl ?_
        refine jr_aload_n F dX7_doubt_50 rfl ?_
        refine jr_iload_n F dX7_doubt_51 rfl ?_
        refine jr_iload_n F dX7_doubt_52 rfl ?_
        refine jr_vE F dX7_doubt_53 cv_X7_189 (c_lay h7.1 Q2 h7.2) (Nat.le_of_ble_eq_true rfl) rfl rfl rfl rfl (Nat.le_of_ble_eq_true rfl) (Nat.le_of_ble_eq_true rfl) rfl (Nat.le_of_ble_eq_true rfl) (fun r53 w53 h53 => ?_)
        rw [h53.1, sr_blB s46]
        refine jr_iload_n F dX7_doubt_56 rfl ?_
        refine jr_vE F dX7_doubt_57 cv_X7_203 (c_X7_doubted Q2 h53.2 h7.2 (by omega) c21) (Nat.le_of_ble_eq_true rfl) rfl rfl rfl rfl (Nat.le_of_ble_eq_true rfl) (Nat.le_of_ble_eq_true rfl) rfl (Nat.le_of_ble_eq_true rfl) (fun r57 w57 h57 => ?_)
        exact jr_iret F dX7_doubt_60 (pE_of ⟨by unfold dbqw; rw [if_pos c9, if_neg (fun z => z c21), if_pos (by omega), h57.1, sr_dbd s46], by rw [eW]; exact h57.2.1⟩)
      · skip
        refine jr_bipush F dX7_doubt_36 (by decide) ?_
        exact jr_iret F dX7_doubt_38 (pE_of ⟨by unfold dbqw; rw [if_pos c9, if_neg (fun z => z c21), if_neg (by omega)], (by unfold dbqW; rw [if_neg (fun q => by omega)]; exact sq_r w)⟩)
    · skip
      refine jr_bipush F dX7_doubt_24 (by decide) ?_
      exact jr_iret F dX7_doubt_26 (pE_of ⟨by unfold dbqw; rw [if_pos c9, if_pos c21], (by unfold dbqW; rw [if_neg (fun q => c21 q.2.1)]; exact sq_r w)⟩)
  · skip
    refine jr_iload F dX7_doubt_12 rfl ?_
    exact jr_iret F dX7_doubt_14 (pE_of ⟨by unfold dbqw; rw [if_neg c9], (by unfold dbqW; rw [if_neg (fun q => c9 q.1)]; exact sq_r w)⟩)

