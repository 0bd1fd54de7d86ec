noncomputable def mnv (S : (Int → Int) → Prop) (r : Int) : Int := @dite _ (∃ m, isMn S r m) (Classical.propDecidable _) (fun h => Classical.choose h) (fun _ => 0)
noncomputable def mxv (S : (Int → Int) → Prop) (r : Int) : Int := @dite _ (∃ m, isMx S r m) (Classical.propDecidable _) (fun h => Classical.choose h) (fun _ => 0)
theorem mnv_e {S : (Int → Int) → Prop} {r m : Int} (h : isMn S r m) : mnv S r = m := by
  have e : ∃ m, isMn S r m := ⟨m, h⟩
  unfold mnv
  rw [dif_pos e]
  exact isMn_u (Classical.choose_spec e) h
theorem mxv_e {S : (Int → Int) → Prop} {r m : Int} (h : isMx S r m) : mxv S r = m := by
  have e : ∃ m, isMx S r m := ⟨m, h⟩
  unfold mxv
  rw [dif_pos e]
  exact isMx_u (Classical.choose_spec e) h
/-- the ladders of a school and an edition, with the ties of b and a wish -/
def LQ (w : Wd) (s e b wi : Int) : (Int → Int) → Prop := Lad w e (cnS w s) b wi
def hasL (w : Wd) (s e b wi : Int) : Prop := ∃ v, LQ w s e b wi v
noncomputable def spn (w : Wd) (s e b wi r side : Int) : Int := @ite _ (hasL w s e b wi ∧ knw w r e) (Classical.propDecidable _) (if side = 0 then mnv (LQ w s e b wi) r else mxv (LQ w s e b wi) r) (-9999)
theorem sq_LQ {w u : Wd} (h : sq w u) : LQ u = LQ w := by funext s e b wi; unfold LQ; rw [sq_Lad h, sq_cnS h]
theorem sq_hasL {w u : Wd} (h : sq w u) : hasL u = hasL w := by funext s e b wi; unfold hasL; rw [sq_LQ h]
theorem sq_spn {w u : Wd} (h : sq w u) : spn u = spn w := by funext s e b wi r side; unfold spn; rw [sq_LQ h, sq_hasL h, sq_knw h]
theorem LD_f {w u x : Wd} {s e : Int} (h : LD w u s e) (f : fdF u x) : LD w x s e := by
  have q : sq u x := fdF_sq f
  have c1 := q 1 (by decide) (by decide)
  refine ⟨sq_t h.1 q, ?_⟩
  have y := h.2
  rw [cell_llS c1 (q 2 (by decide) (by decide)), c1]
  unfold llS FKS at y ⊢
  rw [mat_c (f.1 22 (by decide) (by decide) (by decide) (by decide) (by decide) (by decide) (by decide)), f.2 13 (by decide) (by decide) (by decide), f.2 14 (by decide) (by decide) (by decide), f.1 21 (by decide) (by decide) (by decide) (by decide) (by decide) (by decide) (by decide), f.1 27 (by decide) (by decide) (by decide) (by decide) (by decide) (by decide) (by decide), f.1 28 (by decide) (by decide) (by decide) (by decide) (by decide) (by decide) (by decide), f.1 29 (by decide) (by decide) (by decide) (by decide) (by decide) (by decide) (by decide)]
  exact y
/-- the spans stand -/
def SPS (w x : Wd) (s e b wi : Int) : Prop := (x 20 17 = 1 ↔ hasL w s e b wi) ∧ ∀ r side : Int, 0 ≤ r → r < w 1 3 → 0 ≤ side → side ≤ 1 → endw x r side = spn w s e b wi r side
/-- a span's ends stand in their order -/
def SPO (w : Wd) (s e b wi : Int) : Prop := ∀ r : Int, 0 ≤ r → r < w 1 3 → spn w s e b wi r 0 ≤ spn w s e b wi r 1 ∧ spn w s e b wi r 1 - spn w s e b wi r 0 ≤ 4000
theorem mn_mx {S : (Int → Int) → Prop} {r a b : Int} (h : isMn S r a) (g : isMx S r b) : a ≤ b := by
  obtain ⟨⟨v, h1, h2⟩, h3⟩ := h
  have := g.2 v h1
  omega
theorem c_qfind {B : Bs} {w u : Wd} {s e b wi : Int} (hQ : QI w) (hD : LD w u s e) (hb : 0 ≤ b ∧ b ≤ 1000) (hwi : wi = -1 ∨ (0 ≤ wi ∧ wi < w 8 3)) : Sp (GX B) 5 yX1_find cX1_find 5 (Option.some FieldType.boolean) [.ref (ga (GX B) (20)), iv b, iv wi, iv 1] u (pB (hasL w s e b wi) (fun x => LD w x s e ∧ SPS w x s e b wi ∧ SPO w s e b wi ∧ x 32 = u 32 ∧ x 33 = u 33)) := by
  have q := sq_QI hD.1 hQ
  obtain ⟨q1, q2, q3, q4, q5, q6, q7, q8⟩ := q
  have eL : (∃ v, Lad u e (cnS w s) b wi v) ↔ hasL w s e b wi := by unfold hasL LQ; rw [sq_Lad hD.1]
  refine Sp.mono (c_X1_find_20 q2 q5 q6 q7 hD.2 hb (by rw [hD.1 8 (by decide) (by decide)]; exact hwi) (show (0 : Int) ≤ 1 ∧ (1 : Int) ≤ 1 by omega)) (pB_c eL (fun x hx => ?_))
  have LX := LD_f hD hx.1
  have fx : x 20 17 = 1 ↔ hasL w s e b wi := by rw [hx.2.1, bi_eq1]; exact eL
  have e13 : x 20 13 = e := LX.2.1
  have kx : knw x = knw w := sq_knw LX.1
  have n1 : u 1 3 = w 1 3 := by rw [hD.1 1 (by decide) (by decide)]
  refine ⟨LX, ⟨fx, fun r side r0 r1 s0 s1 => ?_⟩, fun r r0 r1 => ?_, hx.1.1 32 (by decide) (by decide) (by decide) (by decide) (by decide) (by decide) (by decide), hx.1.1 33 (by decide) (by decide) (by decide) (by decide) (by decide) (by decide) (by decide)⟩
  rotate_left
  · unfold spn
    by_cases h : hasL w s e b wi ∧ knw w r e
    · rw [if_pos h, if_pos h, if_pos rfl, if_neg (by omega)]
      have z := hx.2.2 rfl (eL.mpr h.1) r r0 (by omega)
      rw [sq_Lad hD.1] at z
      unfold LQ
      rw [mnv_e z.1, mxv_e z.2]
      refine ⟨mn_mx z.1 z.2, ?_⟩
      obtain ⟨⟨⟨v1, a1, b1⟩, _⟩, ⟨⟨v2, a2, b2⟩, _⟩⟩ := z
      have d1 := a1.1.1.1.1 (r + 1) (by omega) (by omega)
      have d2 := a2.1.1.1.1 (r + 1) (by omega) (by omega)
      unfold yf at b1 b2
      omega
    · rw [if_neg h, if_neg h]
      omega
  unfold endw spn
  rw [e13, kx]
  by_cases h : hasL w s e b wi ∧ knw w r e
  · rw [if_pos ⟨fx.mpr h.1, h.2⟩, if_pos h]
    have z := hx.2.2 rfl (eL.mpr h.1) r r0 (by omega)
    rw [sq_Lad hD.1] at z
    unfold LQ
    rw [mnv_e z.1, mxv_e z.2]
  · rw [if_neg (fun z => h ⟨fx.mp z.1, z.2⟩), if_neg h]
theorem c_qfind0 {B : Bs} {w u : Wd} {s e b wi : Int} (hQ : QI w) (hD : LD w u s e) (hb : 0 ≤ b ∧ b ≤ 1000) (hwi : wi = -1 ∨ (0 ≤ wi ∧ wi < w 8 3)) : Sp (GX B) 5 yX1_find cX1_find 5 (Option.some FieldType.boolean) [.ref (ga (GX B) (20)), iv b, iv wi, iv 0] u (pB (hasL w s e b wi) (fun x => LD w x s e)) := by
  have q := sq_QI hD.1 hQ
  obtain ⟨q1, q2, q3, q4, q5, q6, q7, q8⟩ := q
  have eL : (∃ v, Lad u e (cnS w s) b wi v) ↔ hasL w s e b wi := by unfold hasL LQ; rw [sq_Lad hD.1]
  exact Sp.mono (c_X1_find_20 q2 q5 q6 q7 hD.2 hb (by rw [hD.1 8 (by decide) (by decide)]; exact hwi) (show (0 : Int) ≤ 0 ∧ (0 : Int) ≤ 1 by omega)) (pB_c eL (fun x hx => LD_f hD hx.1))
theorem c_layK {B : Bs} {w : Wd} {s e : Int} (hs : s = 0 ∨ s = 1) (hQ : QI w) (he : 0 ≤ e ∧ e ≤ 9) : Sp (GX B) 6 yX7_lay cX7_lay 5 (Option.some FieldType.int) [.ref (ga (GX B) (0)), iv s, iv e] w (pE (fun x u => x = blB w s e ∧ LD w u s e ∧ u 32 = w 32 ∧ u 33 = w 33)) := by
  rcases hs with rfl | rfl
  · exact c_X7_lay_0 hQ he
  · exact c_X7_lay_1 hQ he
theorem c_lay {B : Bs} {w : Wd} {s e : Int} (hs : s = 0 ∨ s = 1) (hQ : QI w) (he : 0 ≤ e ∧ e ≤ 9) : Sp (GX B) 6 yX7_lay cX7_lay 5 (Option.some FieldType.int) [.ref (ga (GX B) (0)), iv s, iv e] w (pE (fun x u => x = blB w s e ∧ LD w u s e)) :=
  Sp.mono (c_layK hs hQ he) (fun _ _ ⟨r, h1, h2, h3, _⟩ => ⟨r, h1, h2, h3⟩)
theorem c_count {B : Bs} {w : Wd} {s r : Int} (hs : s = 0 ∨ s = 1) (hS : SOK w) (hr : 0 ≤ r ∧ r < 100) : Sp (GX B) 4 yX7_countFor cX7_countFor 3 (Option.some FieldType.int) [.ref (ga (GX B) (0)), iv s, iv r] w (pE (fun x u => x = cntw w s r ∧ e17 w u)) := by
  rcases hs with rfl | rfl
  · exact c_X7_countFor_0 hS hr
  · exact c_X7_countFor_1 hS hr
theorem c_belief {B : Bs} {w : Wd} {s t : Int} (hs : s = 0 ∨ s = 1) (hS : SOK w) (hr : 0 ≤ t ∧ t < 100) : Sp (GX B) 4 yX7_beliefFor cX7_beliefFor 3 (Option.some FieldType.int) [.ref (ga (GX B) (0)), iv s, iv t] w (pE (fun x u => x = blfw w s t ∧ e17 w u)) := by
  rcases hs with rfl | rfl
  · exact c_X7_beliefFor_0 hS hr
  · exact c_X7_beliefFor_1 hS hr
theorem c_believed {B : Bs} {w : Wd} {s e : Int} (hs : s = 0 ∨ s = 1) (hS : SOK w) (he : inR e) : Sp (GX B) 5 yX7_believedBy cX7_believedBy 5 (Option.some FieldType.int) [.ref (ga (GX B) (0)), iv s, iv e] w (pE (fun x u => x = blB w s e ∧ e17 w u)) := by
  rcases hs with rfl | rfl
  · exact c_X7_believedBy_0 hS he
  · exact c_X7_believedBy_1 hS he
def refq (s e : Int) : Int := if s = 0 ∨ s = 1 then (if 0 ≤ e ∧ e ≤ 9 then 0 else -102) else -101
theorem refq_0 {s e : Int} (h : refq s e = 0) : (s = 0 ∨ s = 1) ∧ 0 ≤ e ∧ e ≤ 9 := by unfold refq at h; (repeat' split at h) <;> omega
theorem refq_y {s e : Int} (hs : s = 0 ∨ s = 1) (he : 0 ≤ e ∧ e ≤ 9) : refq s e = 0 := by unfold refq; rw [if_pos hs, if_pos he]
theorem refq_R (s e : Int) : -103 ≤ refq s e ∧ refq s e ≤ 0 := by unfold refq; (repeat' split) <;> omega
noncomputable def canw (w : Wd) (s e : Int) : Int := if refq s e = 0 then bi (hasL w s e (blB w s e) (-1)) else refq s e
noncomputable def spaw (w : Wd) (s e r side : Int) : Int := if refq s e = 0 then (if ¬ (0 ≤ r ∧ r < w 1 3) then -9001 else if ¬ (0 ≤ side ∧ side ≤ 1) then -9002 else spn w s e (blB w s e) (-1) r side) else if refq s e = -101 then -9001 else -9002
noncomputable def opn (w : Wd) (s e b wi : Int) : Nat → Int
  | 0 => 0
  | n + 1 => opn w s e b wi n + (spn w s e b wi (n : Nat) 1 - spn w s e b wi (n : Nat) 0)
theorem opn_e {w x : Wd} {s e b wi : Int} (h : SPS w x s e b wi) : ∀ n : Nat, (n : Int) ≤ w 1 3 → opnw x n = opn w s e b wi n
  | 0, _ => rfl
  | n + 1, hn => by rw [opnw, opn, opn_e h n (by omega), h.2 _ 1 (by omega) (by omega) (by omega) (by omega), h.2 _ 0 (by omega) (by omega) (by omega) (by omega)]
theorem opn_0 {w : Wd} {s e b wi : Int} (h : SPO w s e b wi) : ∀ n : Nat, (n : Int) ≤ w 1 3 → 0 ≤ opn w s e b wi n ∧ opn w s e b wi n ≤ n * 4000
  | 0, _ => by unfold opn; omega
  | n + 1, hn => by
    have a := opn_0 h n (by omega)
    have b := h (n : Nat) (by omega) (by omega)
    rw [opn]; omega
noncomputable def opew (w : Wd) (s e : Int) : Int := if refq s e = 0 then @ite _ (hasL w s e (blB w s e) (-1)) (Classical.propDecidable _) (opn w s e (blB w s e) (-1) (w 1 3).toNat) (-1) else refq s e

set_option maxRecDepth 100000 in
set_option maxHeartbeats 4000000 in
theorem c_X7_can {B : Bs} {w : Wd} {s e : Int} (hQ : QI w) (hs : inR s) (he : inR e) : Sp (GX B) 7 yX7_can cX7_can 4 (Option.some FieldType.int) [.ref (ga (GX B) (0)), iv (s), iv (e)] w (pE (fun x u => x = canw w s e ∧ sq w u)) := by
  refine Sp.of (by decide) (Nat.le_of_ble_eq_true rfl) (fun X F => ?_)
  have hB := blB_R hQ.2.2.2.2.1 s e
  have n10 := hQ.2.1.1
  show Jw (GX B) X _ 0 [some (.ref (ga (GX B) (0))), some (iv (s)), some (iv (e))] [] w
  refine jr_iload_n F dX7_can_0 rfl ?_
  refine jr_iload_n F dX7_can_1 rfl ?_
  refine jr_sI F dX7_can_2 cs_X7_186 (c_X7_refusal (by omega) (by omega)) rfl (Nat.le_of_ble_eq_true rfl) (Nat.le_of_ble_eq_true rfl) rfl (Nat.le_of_ble_eq_true rfl) ?_
  refine jr_ti (b := (refq s e)) rfl ?_
  have rR := refq_R s e
  refine jr_istore_n F dX7_can_5 (Nat.le_of_ble_eq_true rfl) rfl ?_
  refine jr_iload_n F dX7_can_6 rfl ?_
  refine jr_if_eq (tgt := 12) F dX7_can_7 (by decide) (fun c7 => ?_) (fun c7 => ?_) (by omega)
  · skip
    have h7 := refq_0 c7
    refine jr_aload_n F dX7_can_12 rfl ?_
    refine jr_getR (t := 20) F dX7_can_13 fg_X7_57 (Nat.le_of_ble_eq_true rfl) rfl rfl ?_
    refine jr_aload_n F dX7_can_16 rfl ?_
    refine jr_iload_n F dX7_can_17 rfl ?_
    refine jr_iload_n F dX7_can_18 rfl ?_
    refine jr_vE F dX7_can_19 cv_X7_189 (c_lay h7.1 hQ h7.2) (Nat.le_of_ble_eq_true rfl) rfl rfl rfl rfl (Nat.le_of_ble_eq_true rfl) (Nat.le_of_ble_eq_true rfl) rfl (Nat.le_of_ble_eq_true rfl) (fun r19 w19 h19 => ?_)
    rw [h19.1]
    refine jr_iconst F dX7_can_22 ?_
    refine jr_iconst F dX7_can_23 ?_
    refine jr_vB F dX7_can_24 cv_X7_192 (c_qfind0 hQ h19.2 (by omega) (Or.inl rfl)) (Nat.le_of_ble_eq_true rfl) rfl rfl rfl rfl (Nat.le_of_ble_eq_true rfl) (Nat.le_of_ble_eq_true rfl) rfl (Nat.le_of_ble_eq_true rfl) (fun w24 h24 => ?_)
    refine jr_ifeq_b (tgt := 34) F dX7_can_27 (by decide) (fun c27 => ?_) (fun c27 => ?_)
    · skip
      refine jr_iconst F dX7_can_34 ?_
      exact jr_iret F dX7_can_35 (pE_of ⟨by unfold canw; rw [if_pos c7, bi_f c27], h24.1⟩)
    · skip
      refine jr_iconst F dX7_can_30 ?_
      refine jr_goto (tgt := 35) F dX7_can_31 (by decide) ?_
      exact jr_iret F dX7_can_35 (pE_of ⟨by unfold canw; rw [if_pos c7, bi_t c27], h24.1⟩)
  · skip
    refine jr_iload_n F dX7_can_10 rfl ?_
    exact jr_iret F dX7_can_11 (pE_of ⟨by unfold canw; rw [if_neg c7], sq_r w⟩)

set_option maxRecDepth 100000 in
set_option maxHeartbeats 4000000 in
theorem c_X7_span {B : Bs} {w : Wd} {s e r side : Int} (hQ : QI w) (hs : inR s) (he : inR e) (hr : inR r) (hsd : inR side) : Sp (GX B) 7 yX7_span cX7_span 6 (Option.some FieldType.int) [.ref (ga (GX B) (0)), iv (s), iv (e), iv (r), iv (side)] w (pE (fun x u => x = spaw w s e r side ∧ sq w u)) := by
  refine Sp.of (by decide) (Nat.le_of_ble_eq_true rfl) (fun X F => ?_)
  have hB := blB_R hQ.2.2.2.2.1 s e
  have n10 := hQ.2.1.1
  show Jw (GX B) X _ 0 [some (.ref (ga (GX B) (0))), some (iv (s)), some (iv (e)), some (iv (r)), some (iv (side))] [] w
  refine jr_iload_n F dX7_span_0 rfl ?_
  refine jr_iload_n F dX7_span_1 rfl ?_
  refine jr_sI F dX7_span_2 cs_X7_186 (c_X7_refusal (by omega) (by omega)) rfl (Nat.le_of_ble_eq_true rfl) (Nat.le_of_ble_eq_true rfl) rfl (Nat.le_of_ble_eq_true rfl) ?_
  refine jr_ti (b := (refq s e)) rfl ?_
  have rR := refq_R s e
  refine jr_istore F dX7_span_5 (Nat.le_of_ble_eq_true rfl) rfl ?_
  refine jr_iload F dX7_span_7 rfl ?_
  refine jr_if_eq (tgt := 29) F dX7_span_9 (by decide) (fun c9 => ?_) (fun c9 => ?_) (by omega)
  · skip
    have h7 := refq_0 c9
    refine jr_aload_n F dX7_span_29 rfl ?_
    refine jr_getR (t := 1) F dX7_span_30 fg_X7_10 (Nat.le_of_ble_eq_true rfl) rfl rfl ?_
    refine jr_iload_n F dX7_span_33 rfl ?_
    refine jr_vI F dX7_span_34 cv_X7_85 (c_X3_has (by omega)) (Nat.le_of_ble_eq_true rfl) rfl rfl rfl rfl (Nat.le_of_ble_eq_true rfl) (Nat.le_of_ble_eq_true rfl) rfl (Nat.le_of_ble_eq_true rfl) ?_
    refine jr_ifne_b (tgt := 44) F dX7_span_37 (by decide) (fun c37 => ?_) (fun c37 => ?_)
    · skip
      refine jr_iload F dX7_span_44 rfl ?_
      refine jr_iconst F dX7_span_46 ?_
      refine jr_iconst F dX7_span_47 ?_
      refine jr_sI F dX7_span_48 cs_X7_65 (c_X7_within (by omega) (by omega) (by omega)) rfl (Nat.le_of_ble_eq_true rfl) (Nat.le_of_ble_eq_true rfl) rfl (Nat.le_of_ble_eq_true rfl) ?_
      refine jr_ifne_b (tgt := 58) F dX7_span_51 (by decide) (fun c51 => ?_) (fun c51 => ?_)
      · skip
        refine jr_aload_n F dX7_span_58 rfl ?_
        refine jr_getR (t := 20) F dX7_span_59 fg_X7_57 (Nat.le_of_ble_eq_true rfl) rfl rfl ?_
        refine jr_aload_n F dX7_span_62 rfl ?_
        refine jr_iload_n F dX7_span_63 rfl ?_
        refine jr_iload_n F dX7_span_64 rfl ?_
        refine jr_vE F dX7_span_65 cv_X7_189 (c_lay h7.1 hQ h7.2) (Nat.le_of_ble_eq_true rfl) rfl rfl rfl rfl (Nat.le_of_ble_eq_true rfl) (Nat.le_of_ble_eq_true rfl) rfl (Nat.le_of_ble_eq_true rfl) (fun r65 w65 h65 => ?_)
        rw [h65.1]
        refine jr_iconst F dX7_span_68 ?_
        refine jr_iconst F dX7_span_69 ?_
        refine jr_vB F dX7_span_70 cv_X7_192 (c_qfind hQ h65.2 (by omega) (Or.inl rfl)) (Nat.le_of_ble_eq_true rfl) rfl rfl rfl rfl (Nat.le_of_ble_eq_true rfl) (Nat.le_of_ble_eq_true rfl) rfl (Nat.le_of_ble_eq_true rfl) (fun w70 h70 => ?_)
        refine jr_pop F dX7_span_73 rfl ?_
        refine jr_aload_n F dX7_span_74 rfl ?_
        refine jr_getR (t := 20) F dX7_span_75 fg_X7_57 (Nat.le_of_ble_eq_true rfl) rfl rfl ?_
        refine jr_iload_n F dX7_span_78 rfl ?_
        refine jr_iload F dX7_span_79 rfl ?_
        refine jr_vI F dX7_span_81 cv_X7_196 (c_X1_end_20 (by omega) (by omega) (by rw [h70.1.1 1 (by decide) (by decide)]; omega) (by rw [h70.1.2.1]; omega)) (Nat.le_of_ble_eq_true rfl) rfl rfl rfl rfl (Nat.le_of_ble_eq_true rfl) (Nat.le_of_ble_eq_true rfl) rfl (Nat.le_of_ble_eq_true rfl) ?_
        exact jr_iret F dX7_span_84 (pE_of ⟨by unfold spaw; rw [if_pos c9, if_neg (fun z => z c37), if_neg (fun z => z c51)]; exact h70.2.1.2 r side c37.1 c37.2 c51.1 c51.2, h70.1.1⟩)
      · skip
        refine jr_sipush F dX7_span_54 (by decide) ?_
        exact jr_iret F dX7_span_57 (pE_of ⟨by unfold spaw; rw [if_pos c9, if_neg (fun z => z c37), if_pos c51], sq_r w⟩)
    · skip
      refine jr_sipush F dX7_span_40 (by decide) ?_
      exact jr_iret F dX7_span_43 (pE_of ⟨by unfold spaw; rw [if_pos c9, if_pos c37], sq_r w⟩)
  · skip
    refine jr_iload F dX7_span_12 rfl ?_
    refine jr_bipush F dX7_span_14 (by decide) ?_
    refine jr_icmp_ne (tgt := 25) F dX7_span_16 (by decide) (fun c16 => ?_) (fun c16 => ?_) (by omega) (by omega)
    · skip
      refine jr_sipush F dX7_span_25 (by decide) ?_
      exact jr_iret F dX7_span_28 (pE_of ⟨by unfold spaw; rw [if_neg c9, if_neg c16], sq_r w⟩)
    · skip
      refine jr_sipush F dX7_span_19 (by decide) ?_
      refine jr_goto (tgt := 28) F dX7_span_22 (by decide) ?_
      exact jr_iret F dX7_span_28 (pE_of ⟨by unfold spaw; rw [if_neg c9, if_pos c16], sq_r w⟩)

set_option maxRecDepth 100000 in
set_option maxHeartbeats 4000000 in
theorem c_X7_open {B : Bs} {w : Wd} {s e : Int} (hQ : QI w) (hs : inR s) (he : inR e) : Sp (GX B) 7 yX7_open cX7_open 4 (Option.some FieldType.int) [.ref (ga (GX B) (0)), iv (s), iv (e)] w (pE (fun x u => x = opew w s e ∧ sq w u)) := by
  refine Sp.of (by decide) (Nat.le_of_ble_eq_true rfl) (fun X F => ?_)
  have hB := blB_R hQ.2.2.2.2.1 s e
  have n10 := hQ.2.1.1
  show Jw (GX B) X _ 0 [some (.ref (ga (GX B) (0))), some (iv (s)), some (iv (e))] [] w
  refine jr_iload_n F dX7_open_0 rfl ?_
  refine jr_iload_n F dX7_open_1 rfl ?_
  refine jr_sI F dX7_open_2 cs_X7_186 (c_X7_refusal (by omega) (by omega)) rfl (Nat.le_of_ble_eq_true rfl) (Nat.le_of_ble_eq_true rfl) rfl (Nat.le_of_ble_eq_true rfl) ?_
  refine jr_ti (b := (refq s e)) rfl ?_
  have rR := refq_R s e
  refine jr_istore_n F dX7_open_5 (Nat.le_of_ble_eq_true rfl) rfl ?_
  refine jr_iload_n F dX7_open_6 rfl ?_
  refine jr_if_eq (tgt := 12) F dX7_open_7 (by decide) (fun c7 => ?_) (fun c7 => ?_) (by omega)
  · skip
    have h7 := refq_0 c7
    refine jr_aload_n F dX7_open_12 rfl ?_
    refine jr_getR (t := 20) F dX7_open_13 fg_X7_57 (Nat.le_of_ble_eq_true rfl) rfl rfl ?_
    refine jr_aload_n F dX7_open_16 rfl ?_
    refine jr_iload_n F dX7_open_17 rfl ?_
    refine jr_iload_n F dX7_open_18 rfl ?_
    refine jr_vE F dX7_open_19 cv_X7_189 (c_lay h7.1 hQ h7.2) (Nat.le_of_ble_eq_true rfl) rfl rfl rfl rfl (Nat.le_of_ble_eq_true rfl) (Nat.le_of_ble_eq_true rfl) rfl (Nat.le_of_ble_eq_true rfl) (fun r19 w19 h19 => ?_)
    rw [h19.1]
    refine jr_iconst F dX7_open_22 ?_
    refine jr_iconst F dX7_open_23 ?_
    refine jr_vB F dX7_open_24 cv_X7_192 (c_qfind hQ h19.2 (by omega) (Or.inl rfl)) (Nat.le_of_ble_eq_true rfl) rfl rfl rfl rfl (Nat.le_of_ble_eq_true rfl) (Nat.le_of_ble_eq_true rfl) rfl (Nat.le_of_ble_eq_true rfl) (fun w24 h24 => ?_)
    refine jr_ifeq_b (tgt := 40) F dX7_open_27 (by decide) (fun c27 => ?_) (fun c27 => ?_)
    · skip
      refine jr_iconst F dX7_open_40 ?_
      exact jr_iret F dX7_open_41 (pE_of ⟨by unfold opew; rw [if_pos c7, if_neg c27], h24.1.1⟩)
    · skip
      refine jr_aload_n F dX7_open_30 rfl ?_
      refine jr_getR (t := 20) F dX7_open_31 fg_X7_57 (Nat.le_of_ble_eq_true rfl) rfl rfl ?_
      refine jr_vI F dX7_open_34 cv_X7_212 (c_X1_openness_20 (by rw [h24.1.1 1 (by decide) (by decide)]; omega) (by rw [h24.1.2.1]; omega)) (Nat.le_of_ble_eq_true rfl) rfl rfl rfl rfl (Nat.le_of_ble_eq_true rfl) (Nat.le_of_ble_eq_true rfl) rfl (Nat.le_of_ble_eq_true rfl) ?_
      refine jr_goto (tgt := 41) F dX7_open_37 (by decide) ?_
      exact jr_iret F dX7_open_41 (pE_of ⟨by unfold opew; rw [if_pos c7, if_pos c27, h24.1.1 1 (by decide) (by decide)]; exact opn_e h24.2.1 _ (by omega), h24.1.1⟩)
  · skip
    refine jr_iload_n F dX7_open_10 rfl ?_
    exact jr_iret F dX7_open_11 (pE_of ⟨by unfold opew; rw [if_neg c7], sq_r w⟩)

