/-- alike but for the subject -/
def e17 (w u : Wd) : Prop := ∀ k, k ≠ 17 → u k = w k
theorem e17_r (w : Wd) : e17 w w := fun _ _ => rfl
theorem e17_t {a b c : Wd} (h : e17 a b) (g : e17 b c) : e17 a c := fun k hk => (g k hk).trans (h k hk)
theorem z17_e {w u : Wd} (h : z17 w u) : e17 w u := h.1
theorem e17_rd {w u : Wd} (h : e17 w u) {k : Nat} (hk : k ≠ 17) (n : Int) : rd u k n = rd w k n := by funext i; exact rd_c (h k hk) n i
theorem e17_fa {w u : Wd} (h : e17 w u) (r f : Int) : fa u r f = fa w r f := by unfold fa; rw [e17_rd h (by decide)]
theorem e17_tfa {w u : Wd} (h : e17 w u) (r f : Int) : tfa u r f = tfa w r f := by unfold tfa; rw [e17_rd h (by decide)]
theorem e17_knw {w u : Wd} (h : e17 w u) (r e : Int) : knw u r e ↔ knw w r e := by unfold knw; rw [e17_fa h, h 1 (by decide)]
def set17 (w : Wd) (a b c e : Int) : Wd := up (up (up (up w 17 0 a) 17 1 b) 17 2 c) 17 3 e
theorem set17_e (w : Wd) (a b c e : Int) : e17 w (set17 w a b c e) := fun k hk => by unfold set17; rw [up_cell hk, up_cell hk, up_cell hk, up_cell hk]
theorem set17_v (w : Wd) (a b c e : Int) : valv (set17 w a b c e) = selv a b c e := rfl
noncomputable def say0 (w : Wd) (o : Int → Int) (act d : Int) : Int := sayT (rd w 12 360) (rd w 13 6) o act d (w 11 2).toNat
noncomputable def say1 (w : Wd) (o : Int → Int) (act d : Int) : Int := sayT (rd w 15 360) (rd w 16 6) o act d (w 14 2).toNat
noncomputable def sayw (w : Wd) (s : Int) (o : Int → Int) (act d : Int) : Int := if s = 0 then say0 w o act d else say1 w o act d
theorem e17_say {w u : Wd} (h : e17 w u) (s : Int) (o : Int → Int) (act d : Int) : sayw u s o act d = sayw w s o act d := by
  unfold sayw say0 say1
  rw [e17_rd h (by decide), e17_rd h (by decide), e17_rd h (by decide), e17_rd h (by decide), h 11 (by decide), h 14 (by decide)]
/-- how a school counts for a reign; whether it believes a tie -/
noncomputable def cntw (w : Wd) (s r : Int) : Int := sayw w s (selv (fa w r 0) (fa w r 1) (fa w r 2) r) 67 0
noncomputable def blfw (w : Wd) (s t : Int) : Int := sayw w s (selv (fa w (tfa w t 1) 0) (tfa w t 0) (tfa w t 2) t) 66 1
theorem e17_cnt {w u : Wd} (h : e17 w u) (s r : Int) : cntw u s r = cntw w s r := by unfold cntw; rw [e17_say h, e17_fa h, e17_fa h, e17_fa h]
theorem e17_blf {w u : Wd} (h : e17 w u) (s r : Int) : blfw u s r = blfw w s r := by unfold blfw; rw [e17_say h, e17_tfa h, e17_tfa h, e17_tfa h, e17_fa h]
/-- what the schools' walks ask of the world -/
def SOK (w : Wd) : Prop := (0 ≤ w 1 3 ∧ w 1 3 ≤ 10) ∧ (0 ≤ w 5 3 ∧ w 5 3 ≤ 8) ∧ (0 ≤ w 11 2 ∧ w 11 2 ≤ 6) ∧ (0 ≤ w 14 2 ∧ w 14 2 ≤ 6) ∧ (∀ p : Int, -1 ≤ rd w 12 360 p ∧ rd w 12 360 p ≤ 126) ∧ (∀ p : Int, -1 ≤ rd w 15 360 p ∧ rd w 15 360 p ≤ 126) ∧ (∀ p : Int, -1 ≤ rd w 13 6 p ∧ rd w 13 6 p ≤ 60) ∧ (∀ p : Int, -1 ≤ rd w 16 6 p ∧ rd w 16 6 p ≤ 60) ∧ ∀ t f : Int, 0 ≤ f → f < 7 → -1 ≤ tfa w t f ∧ tfa w t f ≤ 99
theorem SOK_e {w u : Wd} (h : e17 w u) (s : SOK w) : SOK u := by
  obtain ⟨a1, a2, a3, a4, a5, a6, a7, a8, a9⟩ := s
  refine ⟨by rw [h 1 (by decide)]; exact a1, by rw [h 5 (by decide)]; exact a2, by rw [h 11 (by decide)]; exact a3, by rw [h 14 (by decide)]; exact a4, ?_, ?_, ?_, ?_, ?_⟩
  · rw [e17_rd h (by decide)]; exact a5
  · rw [e17_rd h (by decide)]; exact a6
  · rw [e17_rd h (by decide)]; exact a7
  · rw [e17_rd h (by decide)]; exact a8
  · intro t f f0 f1; rw [e17_tfa h]; exact a9 t f f0 f1
/-- the ties that a school believes, as known by an edition -/
def blS (w : Wd) (s e t : Int) : Prop := (tfa w t 6 ≤ e ∧ knw w (tfa w t 1) e ∧ (tfa w t 3 = -1 ∨ knw w (tfa w t 3) e)) ∧ blfw w s t = 1
theorem sayT_R (L len o : Int → Int) (act d : Int) (hL : ∀ p, -1 ≤ L p ∧ L p ≤ 126) (hd : -49 ≤ d ∧ d ≤ 78) : ∀ n, -49 ≤ sayT L len o act d n ∧ sayT L len o act d n ≤ 78
  | 0 => hd
  | n + 1 => by
    have := hL ((n : Nat) * 60 + 2)
    have := sayT_R L len o act d hL hd n
    unfold sayT; split <;> omega
theorem sayw_R {w : Wd} (h : SOK w) (s : Int) (o : Int → Int) (act d : Int) (hd : -49 ≤ d ∧ d ≤ 78) : -49 ≤ sayw w s o act d ∧ sayw w s o act d ≤ 78 := by
  obtain ⟨a1, a2, a3, a4, a5, a6, a7, a8, a9⟩ := h
  unfold sayw say0 say1
  split
  · exact sayT_R _ _ _ _ _ a5 hd _
  · exact sayT_R _ _ _ _ _ a6 hd _

set_option maxRecDepth 100000 in
set_option maxHeartbeats 4000000 in
theorem c_X7_isSchool {B : Bs} {w : Wd} {s : Int} (hs : inR s) : Sp (GX B) 1 yX7_isSchool cX7_isSchool 1 (Option.some FieldType.boolean) [iv (s)] w (pI w (bi (s = 0 ∨ s = 1))) := by
  refine Sp.of (by decide) (Nat.le_of_ble_eq_true rfl) (fun X F => ?_)
  show Jw (GX B) X _ 0 [some (iv (s))] [] w
  refine jr_iload_n F dX7_isSchool_0 rfl ?_
  refine jr_iconst F dX7_isSchool_1 ?_
  refine jr_iconst F dX7_isSchool_2 ?_
  refine jr_sI F dX7_isSchool_3 cs_X7_65 (c_X7_within (by omega) (by omega) (by omega)) rfl (Nat.le_of_ble_eq_true rfl) (Nat.le_of_ble_eq_true rfl) rfl (Nat.le_of_ble_eq_true rfl) ?_
  exact jr_zret F dX7_isSchool_6 (pI_of (bi_c (by omega)) rfl) (bi_01 _)

set_option maxRecDepth 100000 in
set_option maxHeartbeats 4000000 in
theorem c_X7_isYear {B : Bs} {w : Wd} {y : Int} (hs : inR y) : Sp (GX B) 1 yX7_isYear cX7_isYear 1 (Option.some FieldType.boolean) [iv (y)] w (pI w (bi (-2000 ≤ y ∧ y ≤ 2000))) := by
  refine Sp.of (by decide) (Nat.le_of_ble_eq_true rfl) (fun X F => ?_)
  show Jw (GX B) X _ 0 [some (iv (y))] [] w
  refine jr_iload_n F dX7_isYear_0 rfl ?_
  refine jr_sipush F dX7_isYear_1 (by decide) ?_
  refine jr_sipush F dX7_isYear_4 (by decide) ?_
  refine jr_sI F dX7_isYear_7 cs_X7_65 (c_X7_within (by omega) (by omega) (by omega)) rfl (Nat.le_of_ble_eq_true rfl) (Nat.le_of_ble_eq_true rfl) rfl (Nat.le_of_ble_eq_true rfl) ?_
  exact jr_zret F dX7_isYear_10 (pI_of rfl rfl) (bi_01 _)

set_option maxRecDepth 100000 in
set_option maxHeartbeats 4000000 in
theorem c_X7_schoolOf_0 {B : Bs} {w : Wd}   : Sp (GX B) 0 yX7_schoolOf cX7_schoolOf 2 (Option.some (FieldType.object "ReignLadders$School")) [.ref (ga (GX B) (0)), iv (0)] w (pR w (ga (GX B) 11)) := by
  refine Sp.of (by decide) (Nat.le_of_ble_eq_true rfl) (fun X F => ?_)
  show Jw (GX B) X _ 0 [some (.ref (ga (GX B) (0))), some (iv (0))] [] w
  refine jr_iload_n F dX7_schoolOf_0 rfl ?_
  refine jr_if_ne (tgt := 11) F dX7_schoolOf_1 (by decide) (fun c1 => ?_) (fun c1 => ?_) (by omega)
  · exact absurd c1 (by omega)
  · skip
    refine jr_aload_n F dX7_schoolOf_4 rfl ?_
    refine jr_getR (t := 11) F dX7_schoolOf_5 fg_X7_31 (Nat.le_of_ble_eq_true rfl) rfl rfl ?_
    refine jr_goto (tgt := 15) F dX7_schoolOf_8 (by decide) ?_
    exact jr_aret F rfl dX7_schoolOf_15 ⟨rfl, rfl⟩

set_option maxRecDepth 100000 in
set_option maxHeartbeats 4000000 in
theorem c_X7_countFor_0 {B : Bs} {w : Wd} {r : Int} (hS : SOK w) (hr : 0 ≤ r ∧ r < 100) : Sp (GX B) 4 yX7_countFor cX7_countFor 3 (Option.some FieldType.int) [.ref (ga (GX B) (0)), iv (0), iv (r)] w (pE (fun x u => x = cntw w 0 r ∧ e17 w u)) := by
  refine Sp.of (by decide) (Nat.le_of_ble_eq_true rfl) (fun X F => ?_)
  refine jr_ok (fun hO => ?_)
  obtain ⟨g1, g2, g3, g4, g5, g6, g7, g8, g9⟩ := id hS
  have q0 := fa_R hO r 0
  have q1 := fa_R hO r 1
  have q2 := fa_R hO r 2
  show Jw (GX B) X _ 0 [some (.ref (ga (GX B) (0))), some (iv (0)), some (iv (r))] [] w
  refine jr_aload_n F dX7_countFor_0 rfl ?_
  refine jr_getR (t := 17) F dX7_countFor_1 fg_X7_41 (Nat.le_of_ble_eq_true rfl) rfl rfl ?_
  refine jr_aload_n F dX7_countFor_4 rfl ?_
  refine jr_getR (t := 1) F dX7_countFor_5 fg_X7_10 (Nat.le_of_ble_eq_true rfl) rfl rfl ?_
  refine jr_iload_n F dX7_countFor_8 rfl ?_
  refine jr_iconst F dX7_countFor_9 ?_
  refine jr_vI F dX7_countFor_10 cv_X7_88 (c_X3_fact (by omega)) (Nat.le_of_ble_eq_true rfl) rfl rfl rfl rfl (Nat.le_of_ble_eq_true rfl) (Nat.le_of_ble_eq_true rfl) rfl (Nat.le_of_ble_eq_true rfl) ?_
  refine jr_aload_n F dX7_countFor_13 rfl ?_
  refine jr_getR (t := 1) F dX7_countFor_14 fg_X7_10 (Nat.le_of_ble_eq_true rfl) rfl rfl ?_
  refine jr_iload_n F dX7_countFor_17 rfl ?_
  refine jr_iconst F dX7_countFor_18 ?_
  refine jr_vI F dX7_countFor_19 cv_X7_88 (c_X3_fact (by omega)) (Nat.le_of_ble_eq_true rfl) rfl rfl rfl rfl (Nat.le_of_ble_eq_true rfl) (Nat.le_of_ble_eq_true rfl) rfl (Nat.le_of_ble_eq_true rfl) ?_
  refine jr_aload_n F dX7_countFor_22 rfl ?_
  refine jr_getR (t := 1) F dX7_countFor_23 fg_X7_10 (Nat.le_of_ble_eq_true rfl) rfl rfl ?_
  refine jr_iload_n F dX7_countFor_26 rfl ?_
  refine jr_iconst F dX7_countFor_27 ?_
  refine jr_vI F dX7_countFor_28 cv_X7_88 (c_X3_fact (by omega)) (Nat.le_of_ble_eq_true rfl) rfl rfl rfl rfl (Nat.le_of_ble_eq_true rfl) (Nat.le_of_ble_eq_true rfl) rfl (Nat.le_of_ble_eq_true rfl) ?_
  refine jr_iload_n F dX7_countFor_31 rfl ?_
  refine jr_vVx F dX7_countFor_32 cv_X7_261 (c_X5_set (by omega) (by omega) (by omega) (by omega)) (Nat.le_of_ble_eq_true rfl) rfl rfl rfl rfl (Nat.le_of_ble_eq_true rfl) (Nat.le_of_ble_eq_true rfl) rfl (Nat.le_of_ble_eq_true rfl) (fun w32 e32 => ?_)
  have x17 : e17 w w32 := by rw [e32]; exact set17_e w _ _ _ _
  have v17 : valv w32 = selv (fa w r 0) (fa w r 1) (fa w r 2) r := by rw [e32]; rfl
  refine jr_aload_n F dX7_countFor_35 rfl ?_
  refine jr_iload_n F dX7_countFor_36 rfl ?_
  refine jr_vR F dX7_countFor_37 cv_X7_167 (c_X7_schoolOf_0) (Nat.le_of_ble_eq_true rfl) rfl rfl rfl rfl (Nat.le_of_ble_eq_true rfl) (Nat.le_of_ble_eq_true rfl) rfl (Nat.le_of_ble_eq_true rfl) ?_
  refine jr_bipush F dX7_countFor_40 (by decide) ?_
  refine jr_aload_n F dX7_countFor_42 rfl ?_
  refine jr_getR (t := 17) F dX7_countFor_43 fg_X7_41 (Nat.le_of_ble_eq_true rfl) rfl rfl ?_
  refine jr_iconst F dX7_countFor_46 ?_
  refine jr_vE F dX7_countFor_47 cv_X7_265 (c_X4_says_11 (by rw [x17 11 (by decide)]; exact g3) (by omega) (by rw [e17_rd x17 (by decide)]; exact g5) (by rw [e17_rd x17 (by decide)]; exact g7)) (Nat.le_of_ble_eq_true rfl) rfl rfl rfl rfl (Nat.le_of_ble_eq_true rfl) (Nat.le_of_ble_eq_true rfl) rfl (Nat.le_of_ble_eq_true rfl) (fun r47 w47 h47 => ?_)
  exact jr_iret F dX7_countFor_50 (pE_of ⟨by rw [h47.1, v17, e17_rd x17 (by decide), e17_rd x17 (by decide), x17 11 (by decide)]; unfold cntw sayw; rw [if_pos rfl]; rfl, e17_t x17 (z17_e h47.2)⟩)

set_option maxRecDepth 100000 in
set_option maxHeartbeats 4000000 in
theorem c_X7_beliefFor_0 {B : Bs} {w : Wd} {t : Int} (hS : SOK w) (hr : 0 ≤ t ∧ t < 100) : Sp (GX B) 4 yX7_beliefFor cX7_beliefFor 3 (Option.some FieldType.int) [.ref (ga (GX B) (0)), iv (0), iv (t)] w (pE (fun x u => x = blfw w 0 t ∧ e17 w u)) := by
  refine Sp.of (by decide) (Nat.le_of_ble_eq_true rfl) (fun X F => ?_)
  refine jr_ok (fun hO => ?_)
  obtain ⟨g1, g2, g3, g4, g5, g6, g7, g8, g9⟩ := id hS
  have k1 := g9 t 1 (by omega) (by omega)
  have q0 := fa_R hO (tfa w t 1) 0
  have q1 := tfa_R hO t 0
  have q2 := tfa_R hO t 2
  show Jw (GX B) X _ 0 [some (.ref (ga (GX B) (0))), some (iv (0)), some (iv (t))] [] w
  refine jr_aload_n F dX7_beliefFor_0 rfl ?_
  refine jr_getR (t := 17) F dX7_beliefFor_1 fg_X7_41 (Nat.le_of_ble_eq_true rfl) rfl rfl ?_
  refine jr_aload_n F dX7_beliefFor_4 rfl ?_
  refine jr_getR (t := 1) F dX7_beliefFor_5 fg_X7_10 (Nat.le_of_ble_eq_true rfl) rfl rfl ?_
  refine jr_aload_n F dX7_beliefFor_8 rfl ?_
  refine jr_getR (t := 5) F dX7_beliefFor_9 fg_X7_21 (Nat.le_of_ble_eq_true rfl) rfl rfl ?_
  refine jr_iload_n F dX7_beliefFor_12 rfl ?_
  refine jr_iconst F dX7_beliefFor_13 ?_
  refine jr_vI F dX7_beliefFor_14 cv_X7_138 (c_X6_fact_5 (by omega)) (Nat.le_of_ble_eq_true rfl) rfl rfl rfl rfl (Nat.le_of_ble_eq_true rfl) (Nat.le_of_ble_eq_true rfl) rfl (Nat.le_of_ble_eq_true rfl) ?_
  refine jr_iconst F dX7_beliefFor_17 ?_
  refine jr_vI F dX7_beliefFor_18 cv_X7_88 (c_X3_fact (by omega)) (Nat.le_of_ble_eq_true rfl) rfl rfl rfl rfl (Nat.le_of_ble_eq_true rfl) (Nat.le_of_ble_eq_true rfl) rfl (Nat.le_of_ble_eq_true rfl) ?_
  refine jr_aload_n F dX7_beliefFor_21 rfl ?_
  refine jr_getR (t := 5) F dX7_beliefFor_22 fg_X7_21 (Nat.le_of_ble_eq_true rfl) rfl rfl ?_
  refine jr_iload_n F dX7_beliefFor_25 rfl ?_
  refine jr_iconst F dX7_beliefFor_26 ?_
  refine jr_vI F dX7_beliefFor_27 cv_X7_138 (c_X6_fact_5 (by omega)) (Nat.le_of_ble_eq_true rfl) rfl rfl rfl rfl (Nat.le_of_ble_eq_true rfl) (Nat.le_of_ble_eq_true rfl) rfl (Nat.le_of_ble_eq_true rfl) ?_
  refine jr_aload_n F dX7_beliefFor_30 rfl ?_
  refine jr_getR (t := 5) F dX7_beliefFor_31 fg_X7_21 (Nat.le_of_ble_eq_true rfl) rfl rfl ?_
  refine jr_iload_n F dX7_beliefFor_34 rfl ?_
  refine jr_iconst F dX7_beliefFor_35 ?_
  refine jr_vI F dX7_beliefFor_36 cv_X7_138 (c_X6_fact_5 (by omega)) (Nat.le_of_ble_eq_true rfl) rfl rfl rfl rfl (Nat.le_of_ble_eq_true rfl) (Nat.le_of_ble_eq_true rfl) rfl (Nat.le_of_ble_eq_true rfl) ?_
  refine jr_iload_n F dX7_beliefFor_39 rfl ?_
  refine jr_vVx F dX7_beliefFor_40 cv_X7_261 (c_X5_set (by omega) (by omega) (by omega) (by omega)) (Nat.le_of_ble_eq_true rfl) rfl rfl rfl rfl (Nat.le_of_ble_eq_true rfl) (Nat.le_of_ble_eq_true rfl) rfl (Nat.le_of_ble_eq_true rfl) (fun w40 e40 => ?_)
  have x17 : e17 w w40 := by rw [e40]; exact set17_e w _ _ _ _
  have v17 : valv w40 = selv (fa w (tfa w t 1) 0) (tfa w t 0) (tfa w t 2) t := by rw [e40]; rfl
  refine jr_aload_n F dX7_beliefFor_43 rfl ?_
  refine jr_iload_n F dX7_beliefFor_44 rfl ?_
  refine jr_vR F dX7_beliefFor_45 cv_X7_167 (c_X7_schoolOf_0) (Nat.le_of_ble_eq_true rfl) rfl rfl rfl rfl (Nat.le_of_ble_eq_true rfl) (Nat.le_of_ble_eq_true rfl) rfl (Nat.le_of_ble_eq_true rfl) ?_
  refine jr_bipush F dX7_beliefFor_48 (by decide) ?_
  refine jr_aload_n F dX7_beliefFor_50 rfl ?_
  refine jr_getR (t := 17) F dX7_beliefFor_51 fg_X7_41 (Nat.le_of_ble_eq_true rfl) rfl rfl ?_
  refine jr_iconst F dX7_beliefFor_54 ?_
  refine jr_vE F dX7_beliefFor_55 cv_X7_265 (c_X4_says_11 (by rw [x17 11 (by decide)]; exact g3) (by omega) (by rw [e17_rd x17 (by decide)]; exact g5) (by rw [e17_rd x17 (by decide)]; exact g7)) (Nat.le_of_ble_eq_true rfl) rfl rfl rfl rfl (Nat.le_of_ble_eq_true rfl) (Nat.le_of_ble_eq_true rfl) rfl (Nat.le_of_ble_eq_true rfl) (fun r55 w55 h55 => ?_)
  exact jr_iret F dX7_beliefFor_58 (pE_of ⟨by rw [h55.1, v17, e17_rd x17 (by decide), e17_rd x17 (by decide), x17 11 (by decide)]; unfold blfw sayw; rw [if_pos rfl]; rfl, e17_t x17 (z17_e h55.2)⟩)

set_option maxRecDepth 100000 in
set_option maxHeartbeats 4000000 in
theorem c_X7_believedBy_0 {B : Bs} {w : Wd} {e : Int} (hS : SOK w) (he : inR e) : Sp (GX B) 5 yX7_believedBy cX7_believedBy 5 (Option.some FieldType.int) [.ref (ga (GX B) (0)), iv (0), iv (e)] w (pE (fun x u => x = bsI (blS w 0 e) (w 5 3) ∧ e17 w u)) := by
  refine Sp.of (by decide) (Nat.le_of_ble_eq_true rfl) (fun X F => ?_)
  obtain ⟨g1, g2, g3, g4, g5, g6, g7, g8, g9⟩ := id hS
  show Jw (GX B) X _ 0 [some (.ref (ga (GX B) (0))), some (iv (0)), some (iv (e))] [] w
  refine jr_iconst F dX7_believedBy_0 ?_
  refine jr_istore_n F dX7_believedBy_1 (Nat.le_of_ble_eq_true rfl) rfl ?_
  refine jr_iconst F dX7_believedBy_2 ?_
  refine jr_istore F dX7_believedBy_3 (Nat.le_of_ble_eq_true rfl) rfl ?_
  have L5 : ∀ (fuel : Nat) (u : Wd) (i : Int) (z : Int), (w 5 3 - i).toNat < fuel → (0 ≤ i) → (i ≤ w 5 3) → (e17 w u) → (z = bsI (blS w 0 e) i) → Jw (GX B) X (pE (fun x u => x = bsI (blS w 0 e) (w 5 3) ∧ e17 w u)) 5 [some (.ref (ga (GX B) 0)), some (iv 0), some (iv e), some (iv z), some (iv i)] [] u := by
    intro fuel
    induction fuel with
    | zero => intro u i z hfuel; exact absurd hfuel (Nat.not_lt_zero _)
    | succ fuel ih5 =>
        intro u i z hfuel h0 h1 hu hz
        have hS2 := SOK_e hu hS
        have u5 : u 5 3 = w 5 3 := by rw [hu 5 (by decide)]
        have u1 : u 1 3 = w 1 3 := by rw [hu 1 (by decide)]
        have zR := bsI_R (blS w 0 e) (i := i) 10 (by omega)
        refine jr_iload F dX7_believedBy_5 rfl ?_
        refine jr_aload_n F dX7_believedBy_7 rfl ?_
        refine jr_getR (t := 5) F dX7_believedBy_8 fg_X7_21 (Nat.le_of_ble_eq_true rfl) rfl rfl ?_
        refine jr_vI F dX7_believedBy_11 cv_X7_139 (c_X6_size_5) (Nat.le_of_ble_eq_true rfl) rfl rfl rfl rfl (Nat.le_of_ble_eq_true rfl) (Nat.le_of_ble_eq_true rfl) rfl (Nat.le_of_ble_eq_true rfl) ?_
        refine jr_ti (b := (w 5 3)) u5 ?_
        refine jr_icmp_ge (tgt := 58) F dX7_believedBy_14 (by decide) (fun c14 => ?_) (fun c14 => ?_) (by omega) (by omega)
        · skip
          refine jr_iload_n F dX7_believedBy_58 rfl ?_
          exact jr_iret F dX7_believedBy_59 (pE_of ⟨by rw [hz, show i = w 5 3 by omega], hu⟩)
        · skip
          refine jr_aload_n F dX7_believedBy_17 rfl ?_
          refine jr_getR (t := 5) F dX7_believedBy_18 fg_X7_21 (Nat.le_of_ble_eq_true rfl) rfl rfl ?_
          refine jr_iload F dX7_believedBy_21 rfl ?_
          refine jr_iload_n F dX7_believedBy_23 rfl ?_
          refine jr_aload_n F dX7_believedBy_24 rfl ?_
          refine jr_getR (t := 1) F dX7_believedBy_25 fg_X7_10 (Nat.le_of_ble_eq_true rfl) rfl rfl ?_
          refine jr_vI F dX7_believedBy_28 cv_X7_269 (c_X6_isKnown_5 (by omega) (by omega) (by omega)) (Nat.le_of_ble_eq_true rfl) rfl rfl rfl rfl (Nat.le_of_ble_eq_true rfl) (Nat.le_of_ble_eq_true rfl) rfl (Nat.le_of_ble_eq_true rfl) ?_
          refine jr_ifeq_b (tgt := 52) F dX7_believedBy_31 (by decide) (fun c31 => ?_) (fun c31 => ?_)
          · skip
            refine jr_iinc F dX7_believedBy_52 rfl (Nat.le_of_ble_eq_true rfl) rfl ?_
            refine jr_goto (tgt := 5) F dX7_believedBy_55 (by decide) ?_
            exact jr_sub (ih5 _ (i + 1) _ (by omega) (by omega) (by omega) hu (by rw [hz, bsI_f h0 (fun q => c31 (by rw [e17_tfa hu, e17_tfa hu, e17_tfa hu, e17_knw hu, e17_knw hu]; exact q.1))])) ⟨rfl, rfl, rfl, rfl, rfl, trivial⟩
          · skip
            refine jr_aload_n F dX7_believedBy_34 rfl ?_
            refine jr_iload_n F dX7_believedBy_35 rfl ?_
            refine jr_iload F dX7_believedBy_36 rfl ?_
            refine jr_vE F dX7_believedBy_38 cv_X7_183 (c_X7_beliefFor_0 hS2 (by omega)) (Nat.le_of_ble_eq_true rfl) rfl rfl rfl rfl (Nat.le_of_ble_eq_true rfl) (Nat.le_of_ble_eq_true rfl) rfl (Nat.le_of_ble_eq_true rfl) (fun r38 w38 h38 => ?_)
            refine jr_iconst F dX7_believedBy_41 ?_
            refine jr_icmp_ne (tgt := 52) F dX7_believedBy_42 (by decide) (fun c42 => ?_) (fun c42 => ?_) (by rw [h38.1]; have := sayw_R hS2 0 (selv (fa u (tfa u i 1) 0) (tfa u i 0) (tfa u i 2) i) 66 1 (by omega); unfold blfw; omega) (by omega)
            · skip
              refine jr_iinc F dX7_believedBy_52 rfl (Nat.le_of_ble_eq_true rfl) rfl ?_
              refine jr_goto (tgt := 5) F dX7_believedBy_55 (by decide) ?_
              exact jr_sub (ih5 _ (i + 1) _ (by omega) (by omega) (by omega) (e17_t hu h38.2) (by rw [hz, bsI_f h0 (fun q => c42 (by rw [h38.1, e17_blf hu]; exact q.2))])) ⟨rfl, rfl, rfl, rfl, rfl, trivial⟩
            · skip
              refine jr_iload_n F dX7_believedBy_45 rfl ?_
              refine jr_iconst F dX7_believedBy_46 ?_
              refine jr_iload F dX7_believedBy_47 rfl ?_
              refine jr_ishl F dX7_believedBy_49 ?_
              refine jr_ior F dX7_believedBy_50 ?_
              refine jr_top (z := bsI (blS w 0 e) (i + 1)) F (by rw [hz]; exact b_orT h0 (by omega) ⟨by rw [e17_tfa hu, e17_tfa hu, e17_tfa hu, e17_knw hu, e17_knw hu] at c31; exact c31, by rw [← e17_blf hu, ← h38.1]; exact c42⟩) ?_
              refine jr_istore_n F dX7_believedBy_51 (Nat.le_of_ble_eq_true rfl) rfl ?_
              refine jr_iinc F dX7_believedBy_52 rfl (Nat.le_of_ble_eq_true rfl) rfl ?_
              refine jr_goto (tgt := 5) F dX7_believedBy_55 (by decide) ?_
              exact jr_sub (ih5 _ (i + 1) _ (by omega) (by omega) (by omega) (e17_t hu h38.2) rfl) ⟨rfl, rfl, rfl, rfl, rfl, trivial⟩
  exact jr_sub (L5 _ _ 0 0 (Nat.lt_succ_self _) (by omega) (by omega) (e17_r w) rfl) ⟨rfl, rfl, rfl, rfl, rfl, trivial⟩

set_option maxRecDepth 100000 in
set_option maxHeartbeats 4000000 in
theorem c_X7_schoolOf_1 {B : Bs} {w : Wd}   : Sp (GX B) 0 yX7_schoolOf cX7_schoolOf 2 (Option.some (FieldType.object "ReignLadders$School")) [.ref (ga (GX B) (0)), iv (1)] w (pR w (ga (GX B) 14)) := by
  refine Sp.of (by decide) (Nat.le_of_ble_eq_true rfl) (fun X F => ?_)
  show Jw (GX B) X _ 0 [some (.ref (ga (GX B) (0))), some (iv (1))] [] w
  refine jr_iload_n F dX7_schoolOf_0 rfl ?_
  refine jr_if_ne (tgt := 11) F dX7_schoolOf_1 (by decide) (fun c1 => ?_) (fun c1 => ?_) (by omega)
  · skip
    refine jr_aload_n F dX7_schoolOf_11 rfl ?_
    refine jr_getR (t := 14) F dX7_schoolOf_12 fg_X7_35 (Nat.le_of_ble_eq_true rfl) rfl rfl ?_
    exact jr_aret F rfl dX7_schoolOf_15 ⟨rfl, rfl⟩
  · exact absurd c1 (by omega)

set_option maxRecDepth 100000 in
set_option maxHeartbeats 4000000 in
theorem c_X7_countFor_1 {B : Bs} {w : Wd} {r : Int} (hS : SOK w) (hr : 0 ≤ r ∧ r < 100) : Sp (GX B) 4 yX7_countFor cX7_countFor 3 (Option.some FieldType.int) [.ref (ga (GX B) (0)), iv (1), iv (r)] w (pE (fun x u => x = cntw w 1 r ∧ e17 w u)) := by
  refine Sp.of (by decide) (Nat.le_of_ble_eq_true rfl) (fun X F => ?_)
  refine jr_ok (fun hO => ?_)
  obtain ⟨g1, g2, g3, g4, g5, g6, g7, g8, g9⟩ := id hS
  have q0 := fa_R hO r 0
  have q1 := fa_R hO r 1
  have q2 := fa_R hO r 2
  show Jw (GX B) X _ 0 [some (.ref (ga (GX B) (0))), some (iv (1)), some (iv (r))] [] w
  refine jr_aload_n F dX7_countFor_0 rfl ?_
  refine jr_getR (t := 17) F dX7_countFor_1 fg_X7_41 (Nat.le_of_ble_eq_true rfl) rfl rfl ?_
  refine jr_aload_n F dX7_countFor_4 rfl ?_
  refine jr_getR (t := 1) F dX7_countFor_5 fg_X7_10 (Nat.le_of_ble_eq_true rfl) rfl rfl ?_
  refine jr_iload_n F dX7_countFor_8 rfl ?_
  refine jr_iconst F dX7_countFor_9 ?_
  refine jr_vI F dX7_countFor_10 cv_X7_88 (c_X3_fact (by omega)) (Nat.le_of_ble_eq_true rfl) rfl rfl rfl rfl (Nat.le_of_ble_eq_true rfl) (Nat.le_of_ble_eq_true rfl) rfl (Nat.le_of_ble_eq_true rfl) ?_
  refine jr_aload_n F dX7_countFor_13 rfl ?_
  refine jr_getR (t := 1) F dX7_countFor_14 fg_X7_10 (Nat.le_of_ble_eq_true rfl) rfl rfl ?_
  refine jr_iload_n F dX7_countFor_17 rfl ?_
  refine jr_iconst F dX7_countFor_18 ?_
  refine jr_vI F dX7_countFor_19 cv_X7_88 (c_X3_fact (by omega)) (Nat.le_of_ble_eq_true rfl) rfl rfl rfl rfl (Nat.le_of_ble_eq_true rfl) (Nat.le_of_ble_eq_true rfl) rfl (Nat.le_of_ble_eq_true rfl) ?_
  refine jr_aload_n F dX7_countFor_22 rfl ?_
  refine jr_getR (t := 1) F dX7_countFor_23 fg_X7_10 (Nat.le_of_ble_eq_true rfl) rfl rfl ?_
  refine jr_iload_n F dX7_countFor_26 rfl ?_
  refine jr_iconst F dX7_countFor_27 ?_
  refine jr_vI F dX7_countFor_28 cv_X7_88 (c_X3_fact (by omega)) (Nat.le_of_ble_eq_true rfl) rfl rfl rfl rfl (Nat.le_of_ble_eq_true rfl) (Nat.le_of_ble_eq_true rfl) rfl (Nat.le_of_ble_eq_true rfl) ?_
  refine jr_iload_n F dX7_countFor_31 rfl ?_
  refine jr_vVx F dX7_countFor_32 cv_X7_261 (c_X5_set (by omega) (by omega) (by omega) (by omega)) (Nat.le_of_ble_eq_true rfl) rfl rfl rfl rfl (Nat.le_of_ble_eq_true rfl) (Nat.le_of_ble_eq_true rfl) rfl (Nat.le_of_ble_eq_true rfl) (fun w32 e32 => ?_)
  have x17 : e17 w w32 := by rw [e32]; exact set17_e w _ _ _ _
  have v17 : valv w32 = selv (fa w r 0) (fa w r 1) (fa w r 2) r := by rw [e32]; rfl
  refine jr_aload_n F dX7_countFor_35 rfl ?_
  refine jr_iload_n F dX7_countFor_36 rfl ?_
  refine jr_vR F dX7_countFor_37 cv_X7_167 (c_X7_schoolOf_1) (Nat.le_of_ble_eq_true rfl) rfl rfl rfl rfl (Nat.le_of_ble_eq_true rfl) (Nat.le_of_ble_eq_true rfl) rfl (Nat.le_of_ble_eq_true rfl) ?_
  refine jr_bipush F dX7_countFor_40 (by decide) ?_
  refine jr_aload_n F dX7_countFor_42 rfl ?_
  refine jr_getR (t := 17) F dX7_countFor_43 fg_X7_41 (Nat.le_of_ble_eq_true rfl) rfl rfl ?_
  refine jr_iconst F dX7_countFor_46 ?_
  refine jr_vE F dX7_countFor_47 cv_X7_265 (c_X4_says_14 (by rw [x17 14 (by decide)]; exact g4) (by omega) (by rw [e17_rd x17 (by decide)]; exact g6) (by rw [e17_rd x17 (by decide)]; exact g8)) (Nat.le_of_ble_eq_true rfl) rfl rfl rfl rfl (Nat.le_of_ble_eq_true rfl) (Nat.le_of_ble_eq_true rfl) rfl (Nat.le_of_ble_eq_true rfl) (fun r47 w47 h47 => ?_)
  exact jr_iret F dX7_countFor_50 (pE_of ⟨by rw [h47.1, v17, e17_rd x17 (by decide), e17_rd x17 (by decide), x17 14 (by decide)]; unfold cntw sayw; rw [if_neg (by omega)]; rfl, e17_t x17 (z17_e h47.2)⟩)

set_option maxRecDepth 100000 in
set_option maxHeartbeats 4000000 in
theorem c_X7_beliefFor_1 {B : Bs} {w : Wd} {t : Int} (hS : SOK w) (hr : 0 ≤ t ∧ t < 100) : Sp (GX B) 4 yX7_beliefFor cX7_beliefFor 3 (Option.some FieldType.int) [.ref (ga (GX B) (0)), iv (1), iv (t)] w (pE (fun x u => x = blfw w 1 t ∧ e17 w u)) := by
  refine Sp.of (by decide) (Nat.le_of_ble_eq_true rfl) (fun X F => ?_)
  refine jr_ok (fun hO => ?_)
  obtain ⟨g1, g2, g3, g4, g5, g6, g7, g8, g9⟩ := id hS
  have k1 := g9 t 1 (by omega) (by omega)
  have q0 := fa_R hO (tfa w t 1) 0
  have q1 := tfa_R hO t 0
  have q2 := tfa_R hO t 2
  show Jw (GX B) X _ 0 [some (.ref (ga (GX B) (0))), some (iv (1)), some (iv (t))] [] w
  refine jr_aload_n F dX7_beliefFor_0 rfl ?_
  refine jr_getR (t := 17) F dX7_beliefFor_1 fg_X7_41 (Nat.le_of_ble_eq_true rfl) rfl rfl ?_
  refine jr_aload_n F dX7_beliefFor_4 rfl ?_
  refine jr_getR (t := 1) F dX7_beliefFor_5 fg_X7_10 (Nat.le_of_ble_eq_true rfl) rfl rfl ?_
  refine jr_aload_n F dX7_beliefFor_8 rfl ?_
  refine jr_getR (t := 5) F dX7_beliefFor_9 fg_X7_21 (Nat.le_of_ble_eq_true rfl) rfl rfl ?_
  refine jr_iload_n F dX7_beliefFor_12 rfl ?_
  refine jr_iconst F dX7_beliefFor_13 ?_
  refine jr_vI F dX7_beliefFor_14 cv_X7_138 (c_X6_fact_5 (by omega)) (Nat.le_of_ble_eq_true rfl) rfl rfl rfl rfl (Nat.le_of_ble_eq_true rfl) (Nat.le_of_ble_eq_true rfl) rfl (Nat.le_of_ble_eq_true rfl) ?_
  refine jr_iconst F dX7_beliefFor_17 ?_
  refine jr_vI F dX7_beliefFor_18 cv_X7_88 (c_X3_fact (by omega)) (Nat.le_of_ble_eq_true rfl) rfl rfl rfl rfl (Nat.le_of_ble_eq_true rfl) (Nat.le_of_ble_eq_true rfl) rfl (Nat.le_of_ble_eq_true rfl) ?_
  refine jr_aload_n F dX7_beliefFor_21 rfl ?_
  refine jr_getR (t := 5) F dX7_beliefFor_22 fg_X7_21 (Nat.le_of_ble_eq_true rfl) rfl rfl ?_
  refine jr_iload_n F dX7_beliefFor_25 rfl ?_
  refine jr_iconst F dX7_beliefFor_26 ?_
  refine jr_vI F dX7_beliefFor_27 cv_X7_138 (c_X6_fact_5 (by omega)) (Nat.le_of_ble_eq_true rfl) rfl rfl rfl rfl (Nat.le_of_ble_eq_true rfl) (Nat.le_of_ble_eq_true rfl) rfl (Nat.le_of_ble_eq_true rfl) ?_
  refine jr_aload_n F dX7_beliefFor_30 rfl ?_
  refine jr_getR (t := 5) F dX7_beliefFor_31 fg_X7_21 (Nat.le_of_ble_eq_true rfl) rfl rfl ?_
  refine jr_iload_n F dX7_beliefFor_34 rfl ?_
  refine jr_iconst F dX7_beliefFor_35 ?_
  refine jr_vI F dX7_beliefFor_36 cv_X7_138 (c_X6_fact_5 (by omega)) (Nat.le_of_ble_eq_true rfl) rfl rfl rfl rfl (Nat.le_of_ble_eq_true rfl) (Nat.le_of_ble_eq_true rfl) rfl (Nat.le_of_ble_eq_true rfl) ?_
  refine jr_iload_n F dX7_beliefFor_39 rfl ?_
  refine jr_vVx F dX7_beliefFor_40 cv_X7_261 (c_X5_set (by omega) (by omega) (by omega) (by omega)) (Nat.le_of_ble_eq_true rfl) rfl rfl rfl rfl (Nat.le_of_ble_eq_true rfl) (Nat.le_of_ble_eq_true rfl) rfl (Nat.le_of_ble_eq_true rfl) (fun w40 e40 => ?_)
  have x17 : e17 w w40 := by rw [e40]; exact set17_e w _ _ _ _
  have v17 : valv w40 = selv (fa w (tfa w t 1) 0) (tfa w t 0) (tfa w t 2) t := by rw [e40]; rfl
  refine jr_aload_n F dX7_beliefFor_43 rfl ?_
  refine jr_iload_n F dX7_beliefFor_44 rfl ?_
  refine jr_vR F dX7_beliefFor_45 cv_X7_167 (c_X7_schoolOf_1) (Nat.le_of_ble_eq_true rfl) rfl rfl rfl rfl (Nat.le_of_ble_eq_true rfl) (Nat.le_of_ble_eq_true rfl) rfl (Nat.le_of_ble_eq_true rfl) ?_
  refine jr_bipush F dX7_beliefFor_48 (by decide) ?_
  refine jr_aload_n F dX7_beliefFor_50 rfl ?_
  refine jr_getR (t := 17) F dX7_beliefFor_51 fg_X7_41 (Nat.le_of_ble_eq_true rfl) rfl rfl ?_
  refine jr_iconst F dX7_beliefFor_54 ?_
  refine jr_vE F dX7_beliefFor_55 cv_X7_265 (c_X4_says_14 (by rw [x17 14 (by decide)]; exact g4) (by omega) (by rw [e17_rd x17 (by decide)]; exact g6) (by rw [e17_rd x17 (by decide)]; exact g8)) (Nat.le_of_ble_eq_true rfl) rfl rfl rfl rfl (Nat.le_of_ble_eq_true rfl) (Nat.le_of_ble_eq_true rfl) rfl (Nat.le_of_ble_eq_true rfl) (fun r55 w55 h55 => ?_)
  exact jr_iret F dX7_beliefFor_58 (pE_of ⟨by rw [h55.1, v17, e17_rd x17 (by decide), e17_rd x17 (by decide), x17 14 (by decide)]; unfold blfw sayw; rw [if_neg (by omega)]; rfl, e17_t x17 (z17_e h55.2)⟩)

set_option maxRecDepth 100000 in
set_option maxHeartbeats 4000000 in
theorem c_X7_believedBy_1 {B : Bs} {w : Wd} {e : Int} (hS : SOK w) (he : inR e) : Sp (GX B) 5 yX7_believedBy cX7_believedBy 5 (Option.some FieldType.int) [.ref (ga (GX B) (0)), iv (1), iv (e)] w (pE (fun x u => x = bsI (blS w 1 e) (w 5 3) ∧ e17 w u)) := by
  refine Sp.of (by decide) (Nat.le_of_ble_eq_true rfl) (fun X F => ?_)
  obtain ⟨g1, g2, g3, g4, g5, g6, g7, g8, g9⟩ := id hS
  show Jw (GX B) X _ 0 [some (.ref (ga (GX B) (0))), some (iv (1)), some (iv (e))] [] w
  refine jr_iconst F dX7_believedBy_0 ?_
  refine jr_istore_n F dX7_believedBy_1 (Nat.le_of_ble_eq_true rfl) rfl ?_
  refine jr_iconst F dX7_believedBy_2 ?_
  refine jr_istore F dX7_believedBy_3 (Nat.le_of_ble_eq_true rfl) rfl ?_
  have L5 : ∀ (fuel : Nat) (u : Wd) (i : Int) (z : Int), (w 5 3 - i).toNat < fuel → (0 ≤ i) → (i ≤ w 5 3) → (e17 w u) → (z = bsI (blS w 1 e) i) → Jw (GX B) X (pE (fun x u => x = bsI (blS w 1 e) (w 5 3) ∧ e17 w u)) 5 [some (.ref (ga (GX B) 0)), some (iv 1), some (iv e), some (iv z), some (iv i)] [] u := by
    intro fuel
    induction fuel with
    | zero => intro u i z hfuel; exact absurd hfuel (Nat.not_lt_zero _)
    | succ fuel ih5 =>
        intro u i z hfuel h0 h1 hu hz
        have hS2 := SOK_e hu hS
        have u5 : u 5 3 = w 5 3 := by rw [hu 5 (by decide)]
        have u1 : u 1 3 = w 1 3 := by rw [hu 1 (by decide)]
        have zR := bsI_R (blS w 1 e) (i := i) 10 (by omega)
        refine jr_iload F dX7_believedBy_5 rfl ?_
        refine jr_aload_n F dX7_believedBy_7 rfl ?_
        refine jr_getR (t := 5) F dX7_believedBy_8 fg_X7_21 (Nat.le_of_ble_eq_true rfl) rfl rfl ?_
        refine jr_vI F dX7_believedBy_11 cv_X7_139 (c_X6_size_5) (Nat.le_of_ble_eq_true rfl) rfl rfl rfl rfl (Nat.le_of_ble_eq_true rfl) (Nat.le_of_ble_eq_true rfl) rfl (Nat.le_of_ble_eq_true rfl) ?_
        refine jr_ti (b := (w 5 3)) u5 ?_
        refine jr_icmp_ge (tgt := 58) F dX7_believedBy_14 (by decide) (fun c14 => ?_) (fun c14 => ?_) (by omega) (by omega)
        · skip
          refine jr_iload_n F dX7_believedBy_58 rfl ?_
          exact jr_iret F dX7_believedBy_59 (pE_of ⟨by rw [hz, show i = w 5 3 by omega], hu⟩)
        · skip
          refine jr_aload_n F dX7_believedBy_17 rfl ?_
          refine jr_getR (t := 5) F dX7_believedBy_18 fg_X7_21 (Nat.le_of_ble_eq_true rfl) rfl rfl ?_
          refine jr_iload F dX7_believedBy_21 rfl ?_
          refine jr_iload_n F dX7_believedBy_23 rfl ?_
          refine jr_aload_n F dX7_believedBy_24 rfl ?_
          refine jr_getR (t := 1) F dX7_believedBy_25 fg_X7_10 (Nat.le_of_ble_eq_true rfl) rfl rfl ?_
          refine jr_vI F dX7_believedBy_28 cv_X7_269 (c_X6_isKnown_5 (by omega) (by omega) (by omega)) (Nat.le_of_ble_eq_true rfl) rfl rfl rfl rfl (Nat.le_of_ble_eq_true rfl) (Nat.le_of_ble_eq_true rfl) rfl (Nat.le_of_ble_eq_true rfl) ?_
          refine jr_ifeq_b (tgt := 52) F dX7_believedBy_31 (by decide) (fun c31 => ?_) (fun c31 => ?_)
          · skip
            refine jr_iinc F dX7_believedBy_52 rfl (Nat.le_of_ble_eq_true rfl) rfl ?_
            refine jr_goto (tgt := 5) F dX7_believedBy_55 (by decide) ?_
            exact jr_sub (ih5 _ (i + 1) _ (by omega) (by omega) (by omega) hu (by rw [hz, bsI_f h0 (fun q => c31 (by rw [e17_tfa hu, e17_tfa hu, e17_tfa hu, e17_knw hu, e17_knw hu]; exact q.1))])) ⟨rfl, rfl, rfl, rfl, rfl, trivial⟩
          · skip
            refine jr_aload_n F dX7_believedBy_34 rfl ?_
            refine jr_iload_n F dX7_believedBy_35 rfl ?_
            refine jr_iload F dX7_believedBy_36 rfl ?_
            refine jr_vE F dX7_believedBy_38 cv_X7_183 (c_X7_beliefFor_1 hS2 (by omega)) (Nat.le_of_ble_eq_true rfl) rfl rfl rfl rfl (Nat.le_of_ble_eq_true rfl) (Nat.le_of_ble_eq_true rfl) rfl (Nat.le_of_ble_eq_true rfl) (fun r38 w38 h38 => ?_)
            refine jr_iconst F dX7_believedBy_41 ?_
            refine jr_icmp_ne (tgt := 52) F dX7_believedBy_42 (by decide) (fun c42 => ?_) (fun c42 => ?_) (by rw [h38.1]; have := sayw_R hS2 1 (selv (fa u (tfa u i 1) 0) (tfa u i 0) (tfa u i 2) i) 66 1 (by omega); unfold blfw; omega) (by omega)
            · skip
              refine jr_iinc F dX7_believedBy_52 rfl (Nat.le_of_ble_eq_true rfl) rfl ?_
              refine jr_goto (tgt := 5) F dX7_believedBy_55 (by decide) ?_
              exact jr_sub (ih5 _ (i + 1) _ (by omega) (by omega) (by omega) (e17_t hu h38.2) (by rw [hz, bsI_f h0 (fun q => c42 (by rw [h38.1, e17_blf hu]; exact q.2))])) ⟨rfl, rfl, rfl, rfl, rfl, trivial⟩
            · skip
              refine jr_iload_n F dX7_believedBy_45 rfl ?_
              refine jr_iconst F dX7_believedBy_46 ?_
              refine jr_iload F dX7_believedBy_47 rfl ?_
              refine jr_ishl F dX7_believedBy_49 ?_
              refine jr_ior F dX7_believedBy_50 ?_
              refine jr_top (z := bsI (blS w 1 e) (i + 1)) F (by rw [hz]; exact b_orT h0 (by omega) ⟨by rw [e17_tfa hu, e17_tfa hu, e17_tfa hu, e17_knw hu, e17_knw hu] at c31; exact c31, by rw [← e17_blf hu, ← h38.1]; exact c42⟩) ?_
              refine jr_istore_n F dX7_believedBy_51 (Nat.le_of_ble_eq_true rfl) rfl ?_
              refine jr_iinc F dX7_believedBy_52 rfl (Nat.le_of_ble_eq_true rfl) rfl ?_
              refine jr_goto (tgt := 5) F dX7_believedBy_55 (by decide) ?_
              exact jr_sub (ih5 _ (i + 1) _ (by omega) (by omega) (by omega) (e17_t hu h38.2) rfl) ⟨rfl, rfl, rfl, rfl, rfl, trivial⟩
  exact jr_sub (L5 _ _ 0 0 (Nat.lt_succ_self _) (by omega) (by omega) (e17_r w) rfl) ⟨rfl, rfl, rfl, rfl, rfl, trivial⟩

