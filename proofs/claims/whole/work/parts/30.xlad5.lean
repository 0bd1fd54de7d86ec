/-! least and greatest values over a set of points' values -/
def yf (r : Int) (v : Int → Int) : Int := v (r + 1) - v 0
def isMn (S : (Int → Int) → Prop) (r m : Int) : Prop := (∃ v, S v ∧ yf r v = m) ∧ ∀ v, S v → m ≤ yf r v
def isMx (S : (Int → Int) → Prop) (r m : Int) : Prop := (∃ v, S v ∧ yf r v = m) ∧ ∀ v, S v → yf r v ≤ m
theorem isMn_u {S : (Int → Int) → Prop} {r a b : Int} (h : isMn S r a) (g : isMn S r b) : a = b := by
  obtain ⟨⟨v, h1, h2⟩, h3⟩ := h
  obtain ⟨⟨u, g1, g2⟩, g3⟩ := g
  have := h3 u g1
  have := g3 v h1
  omega
theorem isMx_u {S : (Int → Int) → Prop} {r a b : Int} (h : isMx S r a) (g : isMx S r b) : a = b := by
  obtain ⟨⟨v, h1, h2⟩, h3⟩ := h
  obtain ⟨⟨u, g1, g2⟩, g3⟩ := g
  have := h3 u g1
  have := g3 v h1
  omega
theorem isMn_c {S T : (Int → Int) → Prop} {r m : Int} (e : ∀ v, S v ↔ T v) (h : isMn S r m) : isMn T r m := ⟨by obtain ⟨v, a, b⟩ := h.1; exact ⟨v, (e v).mp a, b⟩, fun v q => h.2 v ((e v).mpr q)⟩
theorem isMx_c {S T : (Int → Int) → Prop} {r m : Int} (e : ∀ v, S v ↔ T v) (h : isMx S r m) : isMx T r m := ⟨by obtain ⟨v, a, b⟩ := h.1; exact ⟨v, (e v).mp a, b⟩, fun v q => h.2 v ((e v).mpr q)⟩
theorem isMn_j {S T : (Int → Int) → Prop} {r a b : Int} (h : isMn S r a) (g : isMn T r b) : isMn (fun v => S v ∨ T v) r (min a b) := by
  obtain ⟨⟨v, h1, h2⟩, h3⟩ := h
  obtain ⟨⟨u, g1, g2⟩, g3⟩ := g
  refine ⟨?_, fun x q => ?_⟩
  · by_cases e : a ≤ b
    · exact ⟨v, Or.inl h1, by omega⟩
    · exact ⟨u, Or.inr g1, by omega⟩
  · rcases q with q | q
    · have := h3 x q; omega
    · have := g3 x q; omega
theorem isMx_j {S T : (Int → Int) → Prop} {r a b : Int} (h : isMx S r a) (g : isMx T r b) : isMx (fun v => S v ∨ T v) r (max a b) := by
  obtain ⟨⟨v, h1, h2⟩, h3⟩ := h
  obtain ⟨⟨u, g1, g2⟩, g3⟩ := g
  refine ⟨?_, fun x q => ?_⟩
  · by_cases e : b ≤ a
    · exact ⟨v, Or.inl h1, by omega⟩
    · exact ⟨u, Or.inr g1, by omega⟩
  · rcases q with q | q
    · have := h3 x q; omega
    · have := g3 x q; omega
/-- two points told -/
def TP (C : (Int → Int) → Prop) (p x q y : Int) (v : Int → Int) : Prop := C v ∧ v p - v 0 = x ∧ v q - v 0 = y
theorem TP_ex {n : Int} {M : Int → Int → Int} {C : (Int → Int) → Prop} (hC : rep n M C) {p x q y : Int} (hn : 0 < n) (hp : 0 ≤ p ∧ p < n) (hq : 0 ≤ q ∧ q < n) : alw M p x q y ↔ ∃ v, TP C p x q y v := by
  constructor
  · intro a
    have z := vhi_pts hC.1 hn hp.1 hp.2 hq.1 hq.2 a
    exact ⟨vhi M p x q y, (hC.2 _).mp (vhi_sat hC.1 hn hp.1 hp.2 hq.1 hq.2), by omega, by omega⟩
  · rintro ⟨v, a, b, c⟩
    exact alw_of hn hp.1 hp.2 hq.1 hq.2 ((hC.2 v).mpr a) b c
theorem TP_mn {n : Int} {M : Int → Int → Int} {C : (Int → Int) → Prop} (hC : rep n M C) {p x q y r : Int} (hn : 0 < n) (hp : 0 ≤ p ∧ p < n) (hq : 0 ≤ q ∧ q < n) (hr : 0 ≤ r ∧ r + 1 < n) (a : alw M p x q y) : isMn (TP C p x q y) r (vlo M p x q y (r + 1)) ∧ isMx (TP C p x q y) r (vhi M p x q y (r + 1)) := by
  have z := vhi_pts hC.1 hn hp.1 hp.2 hq.1 hq.2 a
  have z2 := vlo_pts hC.1 hn hp.1 hp.2 hq.1 hq.2 a
  refine ⟨⟨⟨vlo M p x q y, ⟨(hC.2 _).mp (vlo_sat hC.1 hn hp.1 hp.2 hq.1 hq.2), by omega, by omega⟩, by unfold yf; omega⟩, fun v k => ?_⟩, ⟨⟨vhi M p x q y, ⟨(hC.2 _).mp (vhi_sat hC.1 hn hp.1 hp.2 hq.1 hq.2), by omega, by omega⟩, by unfold yf; omega⟩, fun v k => ?_⟩⟩
  · exact (vhi_most hn hp.1 hp.2 hq.1 hq.2 (show 0 ≤ r + 1 by omega) hr.2 ((hC.2 v).mpr k.1) k.2.1 k.2.2).1
  · exact (vhi_most hn hp.1 hp.2 hq.1 hq.2 (show 0 ≤ r + 1 by omega) hr.2 ((hC.2 v).mpr k.1) k.2.1 k.2.2).2
/-- what has been found so far of the ladders of S -/
def Acc (w u : Wd) (al : Int) (S : (Int → Int) → Prop) : Prop := (u 20 17 = 0 ∨ u 20 17 = 1) ∧ (u 20 17 = 1 ↔ ∃ v, S v) ∧ (al = 1 → u 20 17 = 1 → ∀ r : Int, 0 ≤ r → r < w 1 3 → isMn S r (u 30 r) ∧ isMx S r (u 31 r))
theorem Acc_c {w u : Wd} {al : Int} {S T : (Int → Int) → Prop} (e : ∀ v, S v ↔ T v) (h : Acc w u al S) : Acc w u al T := ⟨h.1, h.2.1.trans ⟨fun ⟨v, q⟩ => ⟨v, (e v).mp q⟩, fun ⟨v, q⟩ => ⟨v, (e v).mpr q⟩⟩, fun a b r r0 r1 => ⟨isMn_c e (h.2.2 a b r r0 r1).1, isMx_c e (h.2.2 a b r r0 r1).2⟩⟩
noncomputable def wlo (w : Wd) (p x q y r : Int) : Int := @ite _ (w 20 17 = 1) (Classical.propDecidable _) (min (w 30 r) (vlo (mat w 26) p x q y (r + 1))) (vlo (mat w 26) p x q y (r + 1))
noncomputable def whi (w : Wd) (p x q y r : Int) : Int := @ite _ (w 20 17 = 1) (Classical.propDecidable _) (max (w 31 r) (vhi (mat w 26) p x q y (r + 1))) (vhi (mat w 26) p x q y (r + 1))
def wdR (w : Wd) (p x q y n : Int) (u : Wd) : Prop := (∀ k, k ≠ 30 → k ≠ 31 → u k = w k) ∧ (∀ r : Int, 0 ≤ r → r < n → u 30 r = wlo w p x q y r ∧ u 31 r = whi w p x q y r) ∧ ∀ r : Int, n ≤ r → u 30 r = w 30 r ∧ u 31 r = w 31 r
theorem wdR_s {w u x : Wd} {p a q b n : Int} (h : wdR w p a q b n u) (n0 : 0 ≤ n) {l g : Int} (hx : x = up (up u 30 n l) 31 n g) (hl : l = wlo w p a q b n) (hg : g = whi w p a q b n) : wdR w p a q b (n + 1) x := by
  subst hx
  refine ⟨fun k h0 h1 => by rw [up_cell h1, up_cell h0]; exact h.1 k h0 h1, fun r r0 r1 => ?_, fun r r0 => ?_⟩
  · by_cases e : r = n
    · subst e
      exact ⟨by rw [up_cell (by decide), up_self, hl], by rw [up_self, hg]⟩
    · have z := h.2.1 r r0 (by omega)
      exact ⟨by rw [up_cell (by decide), up_ne (by omega)]; exact z.1, by rw [up_ne (by omega), up_cell (by decide)]; exact z.2⟩
  · have z := h.2.2 r (by omega)
    exact ⟨by rw [up_cell (by decide), up_ne (by omega)]; exact z.1, by rw [up_ne (by omega), up_cell (by decide)]; exact z.2⟩

set_option maxRecDepth 100000 in
set_option maxHeartbeats 4000000 in
theorem c_X1_widen_20 {B : Bs} {w : Wd} {x y n : Int} (hn : n = w 1 3 + 1) (h10 : 0 ≤ w 1 3 ∧ w 1 3 ≤ 10) (hs1 : -1 ≤ w 20 15 ∧ w 20 15 ≤ 100) (hs2 : -1 ≤ w 20 16 ∧ w 20 16 ≤ 100) (hp : 0 ≤ (skP w (w 20 15)) ∧ (skP w (w 20 15)) < n) (hq : 0 ≤ (skP w (w 20 16)) ∧ (skP w (w 20 16)) < n) (hx : -5000 ≤ x ∧ x ≤ 5000) (hy : -5000 ≤ y ∧ y ≤ 5000) (hg : gok n (mat w 26)) (hf : w 20 17 = 0 ∨ w 20 17 = 1) : Sp (GX B) 3 yX1_widen cX1_widen 9 (Option.none : Option FieldType) [.ref (ga (GX B) (20)), iv (x), iv (y)] w (pU (wdR w (skP w (w 20 15)) x (skP w (w 20 16)) y (w 1 3))) := by
  refine Sp.of (by decide) (Nat.le_of_ble_eq_true rfl) (fun X F => ?_)
  show Jw (GX B) X _ 0 [some (.ref (ga (GX B) (20))), some (iv (x)), some (iv (y))] [] w
  refine jr_aload_n F dX1_widen_0 rfl ?_
  refine jr_aload_n F dX1_widen_1 rfl ?_
  refine jr_getIx F (w 20 15) dX1_widen_2 fg_X1_64 (Nat.le_of_ble_eq_true rfl) rfl rfl rfl (fun q2 => ?_)
  refine jr_vI F dX1_widen_5 cv_X1_161 (c_X1_pointOf_20 (by omega)) (Nat.le_of_ble_eq_true rfl) rfl rfl rfl rfl (Nat.le_of_ble_eq_true rfl) (Nat.le_of_ble_eq_true rfl) rfl (Nat.le_of_ble_eq_true rfl) ?_
  refine jr_istore_n F dX1_widen_8 (Nat.le_of_ble_eq_true rfl) rfl ?_
  refine jr_aload_n F dX1_widen_9 rfl ?_
  refine jr_aload_n F dX1_widen_10 rfl ?_
  refine jr_getIx F (w 20 16) dX1_widen_11 fg_X1_67 (Nat.le_of_ble_eq_true rfl) rfl rfl rfl (fun q11 => ?_)
  refine jr_vI F dX1_widen_14 cv_X1_161 (c_X1_pointOf_20 (by omega)) (Nat.le_of_ble_eq_true rfl) rfl rfl rfl rfl (Nat.le_of_ble_eq_true rfl) (Nat.le_of_ble_eq_true rfl) rfl (Nat.le_of_ble_eq_true rfl) ?_
  refine jr_istore F dX1_widen_17 (Nat.le_of_ble_eq_true rfl) rfl ?_
  refine jr_iconst F dX1_widen_19 ?_
  refine jr_istore F dX1_widen_20 (Nat.le_of_ble_eq_true rfl) rfl ?_
  have L22 : ∀ (fuel : Nat) (u : Wd) (r : Int), (w 1 3 - r).toNat < fuel → (0 ≤ r) → (r ≤ w 1 3) → (wdR w (skP w (w 20 15)) x (skP w (w 20 16)) y r u) → Jw (GX B) X (pU (wdR w (skP w (w 20 15)) x (skP w (w 20 16)) y (w 1 3))) 22 [some (.ref (ga (GX B) 20)), some (iv x), some (iv y), some (iv (skP w (w 20 15))), some (iv (skP w (w 20 16))), some (iv r)] [] u := by
    intro fuel
    induction fuel with
    | zero => intro u r hfuel; exact absurd hfuel (Nat.not_lt_zero _)
    | succ fuel ih22 =>
        intro u r hfuel r0 r1 hu
        refine jr_ok (fun hO => ?_)
        have u20 : u 20 = w 20 := hu.1 20 (by decide) (by decide)
        have u1 : u 1 = w 1 := hu.1 1 (by decide) (by decide)
        refine jr_iload F dX1_widen_22 rfl ?_
        refine jr_aload_n F dX1_widen_24 rfl ?_
        refine jr_getR (t := 1) F dX1_widen_25 fg_X1_9 (Nat.le_of_ble_eq_true rfl) rfl rfl ?_
        refine jr_vI F dX1_widen_28 cv_X1_74 (c_X3_size) (Nat.le_of_ble_eq_true rfl) rfl rfl rfl rfl (Nat.le_of_ble_eq_true rfl) (Nat.le_of_ble_eq_true rfl) rfl (Nat.le_of_ble_eq_true rfl) ?_
        refine jr_ti (b := (w 1 3)) (congrFun u1 3) ?_
        refine jr_icmp_ge (tgt := 211) F dX1_widen_31 (by decide) (fun c31 => ?_) (fun c31 => ?_) (by omega) (by omega)
        · skip
          obtain rfl : r = w 1 3 := by omega
          exact jr_vret F dX1_widen_211 ⟨rfl, hu⟩
        · skip
          have g1 := gok_R hg (a := (skP w (w 20 15))) (b := r + 1) hp.1 hp.2 (show 0 ≤ r + 1 by omega) (by omega)
          have g2 := gok_R hg (a := (skP w (w 20 16))) (b := r + 1) hq.1 hq.2 (show 0 ≤ r + 1 by omega) (by omega)
          have g3 := gok_R hg (a := r + 1) (b := (skP w (w 20 15))) (show 0 ≤ r + 1 by omega) (by omega) hp.1 hp.2
          have g4 := gok_R hg (a := r + 1) (b := (skP w (w 20 16))) (show 0 ≤ r + 1 by omega) (by omega) hq.1 hq.2
          have g5 := gok_R hg (a := 0) (b := r + 1) (show (0 : Int) ≤ 0 by omega) (by omega) (show 0 ≤ r + 1 by omega) (by omega)
          have g6 := gok_R hg (a := r + 1) (b := 0) (show 0 ≤ r + 1 by omega) (by omega) (show (0 : Int) ≤ 0 by omega) (by omega)
          have ur := hu.2.2 r (Int.le_refl _)
          have k30 : inR (rd u 30 10 r) := rd_R (k := 30) (n := 10) hO rfl _
          have k31 : inR (rd u 31 10 r) := rd_R (k := 31) (n := 10) hO rfl _
          rw [rd_in (by omega) (by omega), ur.1] at k30
          rw [rd_in (by omega) (by omega), ur.2] at k31
          refine jr_iload F dX1_widen_34 rfl ?_
          refine jr_iconst F dX1_widen_36 ?_
          refine jr_iadd F dX1_widen_37 ?_
          refine jr_istore F dX1_widen_38 (Nat.le_of_ble_eq_true rfl) rfl ?_
          refine jr_iload_n F dX1_widen_40 rfl ?_
          refine jr_aload_n F dX1_widen_41 rfl ?_
          refine jr_getR (t := 25) F dX1_widen_42 fg_X1_32 (Nat.le_of_ble_eq_true rfl) rfl rfl ?_
          refine jr_iload_n F dX1_widen_45 rfl ?_
          refine jr_iload F dX1_widen_46 rfl ?_
          refine jr_vI F dX1_widen_48 cv_X1_171 (c_X0_most_25 (by omega)) (Nat.le_of_ble_eq_true rfl) rfl rfl rfl rfl (Nat.le_of_ble_eq_true rfl) (Nat.le_of_ble_eq_true rfl) rfl (Nat.le_of_ble_eq_true rfl) ?_
          refine jr_ti (b := (mat w 26 (skP w (w 20 15)) (r + 1))) (by rw [rd_c (hu.1 26 (by decide) (by decide)), rd_in (by omega) (by omega)]; rfl) ?_
          refine jr_iadd F dX1_widen_51 ?_
          refine jr_iload_n F dX1_widen_52 rfl ?_
          refine jr_aload_n F dX1_widen_53 rfl ?_
          refine jr_getR (t := 25) F dX1_widen_54 fg_X1_32 (Nat.le_of_ble_eq_true rfl) rfl rfl ?_
          refine jr_iload F dX1_widen_57 rfl ?_
          refine jr_iload F dX1_widen_59 rfl ?_
          refine jr_vI F dX1_widen_61 cv_X1_171 (c_X0_most_25 (by omega)) (Nat.le_of_ble_eq_true rfl) rfl rfl rfl rfl (Nat.le_of_ble_eq_true rfl) (Nat.le_of_ble_eq_true rfl) rfl (Nat.le_of_ble_eq_true rfl) ?_
          refine jr_ti (b := (mat w 26 (skP w (w 20 16)) (r + 1))) (by rw [rd_c (hu.1 26 (by decide) (by decide)), rd_in (by omega) (by omega)]; rfl) ?_
          refine jr_iadd F dX1_widen_64 ?_
          refine jr_sI F dX1_widen_65 cs_X1_174 (c_J_min (by omega) (by omega)) rfl (Nat.le_of_ble_eq_true rfl) (Nat.le_of_ble_eq_true rfl) rfl (Nat.le_of_ble_eq_true rfl) ?_
          refine jr_istore F dX1_widen_68 (Nat.le_of_ble_eq_true rfl) rfl ?_
          refine jr_iload_n F dX1_widen_70 rfl ?_
          refine jr_aload_n F dX1_widen_71 rfl ?_
          refine jr_getR (t := 25) F dX1_widen_72 fg_X1_32 (Nat.le_of_ble_eq_true rfl) rfl rfl ?_
          refine jr_iload F dX1_widen_75 rfl ?_
          refine jr_iload_n F dX1_widen_77 rfl ?_
          refine jr_vI F dX1_widen_78 cv_X1_171 (c_X0_most_25 (by omega)) (Nat.le_of_ble_eq_true rfl) rfl rfl rfl rfl (Nat.le_of_ble_eq_true rfl) (Nat.le_of_ble_eq_true rfl) rfl (Nat.le_of_ble_eq_true rfl) ?_
          refine jr_ti (b := (mat w 26 (r + 1) (skP w (w 20 15)))) (by rw [rd_c (hu.1 26 (by decide) (by decide)), rd_in (by omega) (by omega)]; rfl) ?_
          refine jr_isub F dX1_widen_81 ?_
          refine jr_iload_n F dX1_widen_82 rfl ?_
          refine jr_aload_n F dX1_widen_83 rfl ?_
          refine jr_getR (t := 25) F dX1_widen_84 fg_X1_32 (Nat.le_of_ble_eq_true rfl) rfl rfl ?_
          refine jr_iload F dX1_widen_87 rfl ?_
          refine jr_iload F dX1_widen_89 rfl ?_
          refine jr_vI F dX1_widen_91 cv_X1_171 (c_X0_most_25 (by omega)) (Nat.le_of_ble_eq_true rfl) rfl rfl rfl rfl (Nat.le_of_ble_eq_true rfl) (Nat.le_of_ble_eq_true rfl) rfl (Nat.le_of_ble_eq_true rfl) ?_
          refine jr_ti (b := (mat w 26 (r + 1) (skP w (w 20 16)))) (by rw [rd_c (hu.1 26 (by decide) (by decide)), rd_in (by omega) (by omega)]; rfl) ?_
          refine jr_isub F dX1_widen_94 ?_
          refine jr_sI F dX1_widen_95 cs_X1_179 (c_J_max (by omega) (by omega)) rfl (Nat.le_of_ble_eq_true rfl) (Nat.le_of_ble_eq_true rfl) rfl (Nat.le_of_ble_eq_true rfl) ?_
          refine jr_istore F dX1_widen_98 (Nat.le_of_ble_eq_true rfl) rfl ?_
          refine jr_iload F dX1_widen_100 rfl ?_
          refine jr_aload_n F dX1_widen_102 rfl ?_
          refine jr_getR (t := 25) F dX1_widen_103 fg_X1_32 (Nat.le_of_ble_eq_true rfl) rfl rfl ?_
          refine jr_iconst F dX1_widen_106 ?_
          refine jr_iload F dX1_widen_107 rfl ?_
          refine jr_vI F dX1_widen_109 cv_X1_171 (c_X0_most_25 (by omega)) (Nat.le_of_ble_eq_true rfl) rfl rfl rfl rfl (Nat.le_of_ble_eq_true rfl) (Nat.le_of_ble_eq_true rfl) rfl (Nat.le_of_ble_eq_true rfl) ?_
          refine jr_ti (b := (mat w 26 0 (r + 1))) (by rw [rd_c (hu.1 26 (by decide) (by decide)), rd_in (by omega) (by omega)]; rfl) ?_
          refine jr_sI F dX1_widen_112 cs_X1_174 (c_J_min (by omega) (by omega)) rfl (Nat.le_of_ble_eq_true rfl) (Nat.le_of_ble_eq_true rfl) rfl (Nat.le_of_ble_eq_true rfl) ?_
          refine jr_istore F dX1_widen_115 (Nat.le_of_ble_eq_true rfl) rfl ?_
          refine jr_iload F dX1_widen_117 rfl ?_
          refine jr_aload_n F dX1_widen_119 rfl ?_
          refine jr_getR (t := 25) F dX1_widen_120 fg_X1_32 (Nat.le_of_ble_eq_true rfl) rfl rfl ?_
          refine jr_iload F dX1_widen_123 rfl ?_
          refine jr_iconst F dX1_widen_125 ?_
          refine jr_vI F dX1_widen_126 cv_X1_171 (c_X0_most_25 (by omega)) (Nat.le_of_ble_eq_true rfl) rfl rfl rfl rfl (Nat.le_of_ble_eq_true rfl) (Nat.le_of_ble_eq_true rfl) rfl (Nat.le_of_ble_eq_true rfl) ?_
          refine jr_ti (b := (mat w 26 (r + 1) 0)) (by rw [rd_c (hu.1 26 (by decide) (by decide)), rd_in (by omega) (by omega)]; rfl) ?_
          refine jr_ineg F dX1_widen_129 ?_
          refine jr_sI F dX1_widen_130 cs_X1_179 (c_J_max (by omega) (by omega)) rfl (Nat.le_of_ble_eq_true rfl) (Nat.le_of_ble_eq_true rfl) rfl (Nat.le_of_ble_eq_true rfl) ?_
          refine jr_istore F dX1_widen_133 (Nat.le_of_ble_eq_true rfl) rfl ?_
          refine jr_aload_n F dX1_widen_135 rfl ?_
          refine jr_getR (t := 30) F dX1_widen_136 fg_X1_45 (Nat.le_of_ble_eq_true rfl) rfl rfl ?_
          refine jr_iload F dX1_widen_139 rfl ?_
          refine jr_aload_n F dX1_widen_141 rfl ?_
          refine jr_getZx F (w 20 17) dX1_widen_142 fg_X1_70 (Nat.le_of_ble_eq_true rfl) rfl rfl (congrFun u20 17) (fun q142 => ?_)
          refine jr_if_eq (tgt := 165) F dX1_widen_145 (by decide) (fun c145 => ?_) (fun c145 => ?_) (by omega)
          · skip
            refine jr_iload F dX1_widen_165 rfl ?_
            refine jr_nVx F dX1_widen_167 cn_X1_114 (c_put_in (Nat.le_of_ble_eq_true rfl) rfl (by omega) (by omega) (by omega) (by omega)) rfl (Nat.le_of_ble_eq_true rfl) (Nat.le_of_ble_eq_true rfl) rfl (Nat.le_of_ble_eq_true rfl) (fun w167 e167 => ?_)
            refine jr_aload_n F dX1_widen_170 rfl ?_
            refine jr_getR (t := 31) F dX1_widen_171 fg_X1_48 (Nat.le_of_ble_eq_true rfl) rfl rfl ?_
            refine jr_iload F dX1_widen_174 rfl ?_
            refine jr_aload_n F dX1_widen_176 rfl ?_
            refine jr_getZx F (w 20 17) dX1_widen_177 fg_X1_70 (Nat.le_of_ble_eq_true rfl) rfl rfl (by subst e167; exact congrFun u20 17) (fun q177 => ?_)
            refine jr_if_eq (tgt := 200) F dX1_widen_180 (by decide) (fun c180 => ?_) (fun c180 => ?_) (by omega)
            · skip
              refine jr_iload F dX1_widen_200 rfl ?_
              refine jr_nVx F dX1_widen_202 cn_X1_114 (c_put_in (Nat.le_of_ble_eq_true rfl) rfl (by omega) (by omega) (by omega) (by omega)) rfl (Nat.le_of_ble_eq_true rfl) (Nat.le_of_ble_eq_true rfl) rfl (Nat.le_of_ble_eq_true rfl) (fun w202 e202 => ?_)
              refine jr_iinc F dX1_widen_205 rfl (Nat.le_of_ble_eq_true rfl) rfl ?_
              refine jr_goto (tgt := 22) F dX1_widen_208 (by decide) ?_
              first | (exfalso; omega) | exact jr_sub (ih22 _ (r + 1) (by omega) (by omega) (by omega) (wdR_s hu r0 (by subst e202; subst e167; rfl) (by unfold wlo; first | (rw [if_pos (by omega)]; rfl) | (rw [if_neg (by omega)]; rfl)) (by unfold whi; first | (rw [if_pos (by omega)]; rfl) | (rw [if_neg (by omega)]; rfl)))) ⟨rfl, rfl, rfl, rfl, rfl, rfl, trivial⟩
            · skip
              refine jr_aload_n F dX1_widen_183 rfl ?_
              refine jr_getR (t := 31) F dX1_widen_184 fg_X1_48 (Nat.le_of_ble_eq_true rfl) rfl rfl ?_
              refine jr_iload F dX1_widen_187 rfl ?_
              refine jr_nI F dX1_widen_189 cn_X1_153 (c_X7_at (Nat.le_of_ble_eq_true rfl) rfl (by omega) (by omega)) rfl (Nat.le_of_ble_eq_true rfl) (Nat.le_of_ble_eq_true rfl) rfl (Nat.le_of_ble_eq_true rfl) ?_
              refine jr_ti (b := (w 31 r)) (by subst e167; rw [rd_in (by omega) (by omega), up_cell (by decide), ur.2]) ?_
              refine jr_iload F dX1_widen_192 rfl ?_
              refine jr_sI F dX1_widen_194 cs_X1_179 (c_J_max (by omega) (by omega)) rfl (Nat.le_of_ble_eq_true rfl) (Nat.le_of_ble_eq_true rfl) rfl (Nat.le_of_ble_eq_true rfl) ?_
              refine jr_goto (tgt := 202) F dX1_widen_197 (by decide) ?_
              refine jr_nVx F dX1_widen_202 cn_X1_114 (c_put_in (Nat.le_of_ble_eq_true rfl) rfl (by omega) (by omega) (by omega) (by omega)) rfl (Nat.le_of_ble_eq_true rfl) (Nat.le_of_ble_eq_true rfl) rfl (Nat.le_of_ble_eq_true rfl) (fun w202_1 e202_1 => ?_)
              refine jr_iinc F dX1_widen_205 rfl (Nat.le_of_ble_eq_true rfl) rfl ?_
              refine jr_goto (tgt := 22) F dX1_widen_208 (by decide) ?_
              first | (exfalso; omega) | exact jr_sub (ih22 _ (r + 1) (by omega) (by omega) (by omega) (wdR_s hu r0 (by subst e202_1; subst e167; rfl) (by unfold wlo; first | (rw [if_pos (by omega)]; rfl) | (rw [if_neg (by omega)]; rfl)) (by unfold whi; first | (rw [if_pos (by omega)]; rfl) | (rw [if_neg (by omega)]; rfl)))) ⟨rfl, rfl, rfl, rfl, rfl, rfl, trivial⟩
          · skip
            refine jr_aload_n F dX1_widen_148 rfl ?_
            refine jr_getR (t := 30) F dX1_widen_149 fg_X1_45 (Nat.le_of_ble_eq_true rfl) rfl rfl ?_
            refine jr_iload F dX1_widen_152 rfl ?_
            refine jr_nI F dX1_widen_154 cn_X1_153 (c_X7_at (Nat.le_of_ble_eq_true rfl) rfl (by omega) (by omega)) rfl (Nat.le_of_ble_eq_true rfl) (Nat.le_of_ble_eq_true rfl) rfl (Nat.le_of_ble_eq_true rfl) ?_
            refine jr_ti (b := (w 30 r)) (by rw [rd_in (by omega) (by omega), ur.1]) ?_
            refine jr_iload F dX1_widen_157 rfl ?_
            refine jr_sI F dX1_widen_159 cs_X1_174 (c_J_min (by omega) (by omega)) rfl (Nat.le_of_ble_eq_true rfl) (Nat.le_of_ble_eq_true rfl) rfl (Nat.le_of_ble_eq_true rfl) ?_
            refine jr_goto (tgt := 167) F dX1_widen_162 (by decide) ?_
            refine jr_nVx F dX1_widen_167 cn_X1_114 (c_put_in (Nat.le_of_ble_eq_true rfl) rfl (by omega) (by omega) (by omega) (by omega)) rfl (Nat.le_of_ble_eq_true rfl) (Nat.le_of_ble_eq_true rfl) rfl (Nat.le_of_ble_eq_true rfl) (fun w167_1 e167_1 => ?_)
            refine jr_aload_n F dX1_widen_170 rfl ?_
            refine jr_getR (t := 31) F dX1_widen_171 fg_X1_48 (Nat.le_of_ble_eq_true rfl) rfl rfl ?_
            refine jr_iload F dX1_widen_174 rfl ?_
            refine jr_aload_n F dX1_widen_176 rfl ?_
            refine jr_getZx F (w 20 17) dX1_widen_177 fg_X1_70 (Nat.le_of_ble_eq_true rfl) rfl rfl (by subst e167_1; exact congrFun u20 17) (fun q177 => ?_)
            refine jr_if_eq (tgt := 200) F dX1_widen_180 (by decide) (fun c180 => ?_) (fun c180 => ?_) (by omega)
            · skip
              refine jr_iload F dX1_widen_200 rfl ?_
              refine jr_nVx F dX1_widen_202 cn_X1_114 (c_put_in (Nat.le_of_ble_eq_true rfl) rfl (by omega) (by omega) (by omega) (by omega)) rfl (Nat.le_of_ble_eq_true rfl) (Nat.le_of_ble_eq_true rfl) rfl (Nat.le_of_ble_eq_true rfl) (fun w202_2 e202_2 => ?_)
              refine jr_iinc F dX1_widen_205 rfl (Nat.le_of_ble_eq_true rfl) rfl ?_
              refine jr_goto (tgt := 22) F dX1_widen_208 (by decide) ?_
              first | (exfalso; omega) | exact jr_sub (ih22 _ (r + 1) (by omega) (by omega) (by omega) (wdR_s hu r0 (by subst e202_2; subst e167_1; rfl) (by unfold wlo; first | (rw [if_pos (by omega)]; rfl) | (rw [if_neg (by omega)]; rfl)) (by unfold whi; first | (rw [if_pos (by omega)]; rfl) | (rw [if_neg (by omega)]; rfl)))) ⟨rfl, rfl, rfl, rfl, rfl, rfl, trivial⟩
            · skip
              refine jr_aload_n F dX1_widen_183 rfl ?_
              refine jr_getR (t := 31) F dX1_widen_184 fg_X1_48 (Nat.le_of_ble_eq_true rfl) rfl rfl ?_
              refine jr_iload F dX1_widen_187 rfl ?_
              refine jr_nI F dX1_widen_189 cn_X1_153 (c_X7_at (Nat.le_of_ble_eq_true rfl) rfl (by omega) (by omega)) rfl (Nat.le_of_ble_eq_true rfl) (Nat.le_of_ble_eq_true rfl) rfl (Nat.le_of_ble_eq_true rfl) ?_
              refine jr_ti (b := (w 31 r)) (by subst e167_1; rw [rd_in (by omega) (by omega), up_cell (by decide), ur.2]) ?_
              refine jr_iload F dX1_widen_192 rfl ?_
              refine jr_sI F dX1_widen_194 cs_X1_179 (c_J_max (by omega) (by omega)) rfl (Nat.le_of_ble_eq_true rfl) (Nat.le_of_ble_eq_true rfl) rfl (Nat.le_of_ble_eq_true rfl) ?_
              refine jr_goto (tgt := 202) F dX1_widen_197 (by decide) ?_
              refine jr_nVx F dX1_widen_202 cn_X1_114 (c_put_in (Nat.le_of_ble_eq_true rfl) rfl (by omega) (by omega) (by omega) (by omega)) rfl (Nat.le_of_ble_eq_true rfl) (Nat.le_of_ble_eq_true rfl) rfl (Nat.le_of_ble_eq_true rfl) (fun w202_3 e202_3 => ?_)
              refine jr_iinc F dX1_widen_205 rfl (Nat.le_of_ble_eq_true rfl) rfl ?_
              refine jr_goto (tgt := 22) F dX1_widen_208 (by decide) ?_
              first | (exfalso; omega) | exact jr_sub (ih22 _ (r + 1) (by omega) (by omega) (by omega) (wdR_s hu r0 (by subst e202_3; subst e167_1; rfl) (by unfold wlo; first | (rw [if_pos (by omega)]; rfl) | (rw [if_neg (by omega)]; rfl)) (by unfold whi; first | (rw [if_pos (by omega)]; rfl) | (rw [if_neg (by omega)]; rfl)))) ⟨rfl, rfl, rfl, rfl, rfl, rfl, trivial⟩
  exact jr_sub (L22 _ _ 0 (Nat.lt_succ_self _) (by omega) (by omega) ⟨fun _ _ _ => rfl, fun r a b => by omega, fun r a => ⟨rfl, rfl⟩⟩) ⟨rfl, rfl, rfl, rfl, rfl, rfl, trivial⟩

