/-- cells copied from s to d -/
def cpA (w : Wd) (d s : Nat) : Wd := fun k i => if k = d ∧ 0 ≤ i ∧ i < 121 then w s i else w k i
theorem cpA_c {w : Wd} {d s k : Nat} (h : k ≠ d) : cpA w d s k = w k := by funext i; unfold cpA; rw [if_neg (fun q => h q.1)]
theorem cpA_mat {w : Wd} {d s : Nat} {a b : Int} (a0 : 0 ≤ a) (a1 : a < 11) (b0 : 0 ≤ b) (b1 : b < 11) : mat (cpA w d s) d a b = mat w s a b := by unfold mat cpA; rw [if_pos (by omega)]
theorem jr_copy {G : Gc} {X : Xc} {cc : ByteArray} {nL d : Nat} {ret : Option FieldType} {post : Option Value → Wd → Prop} {pc : Nat} {lv : List (Option Value)} {w : Wd} (F : Fx G X "ReignLadders$Grid" cc nL d ret) {kd ks : Nat} (hd : decode cc pc = .ok (.invokestatic 27, 3)) (hkd : kd < gn G) (hks : ks < gn G) (hsd : gS G kd = .inl (0, 121)) (hss : gS G ks = .inl (0, 121)) (h1 : 1 ≤ d)
    (kk : ∀ u : Wd, u = cpA w kd ks → Jw G X post (pc + 3) lv [] u) : Jw G X post pc lv [iv 121, iv 0, .ref (ga G kd), iv 0, .ref (ga G ks)] w := by
  intro H locs ls hP hD hS hO hl
  have hts := F.2.2.2.2.1
  refine va_copyi F.1 F.2.1 (hl.1.symm) F.2.2.2.1 (hts _ (tb_in 681 (by decide +kernel) (by decide +kernel))) (hts _ (tb_in 683 (by decide +kernel) (by decide +kernel))) (hts _ (tb_in 682 (by decide +kernel) (by decide +kernel))) (hts _ (tb_in 73 (by decide +kernel) (by decide +kernel)))
    F.2.2.2.2.2.1 hP hD hS ks kd 0 0 (by rw [cels_get hks, cel_A hss]) (by rw [cels_get hkd, cel_A hsd]) rfl rfl rfl (by decide) (by decide) (by decide) (by decide) (by decide) (fun _ _ => rfl) (by rw [F.2.2.2.2.2.2.2.2.2.1]; exact h1) (by rw [F.2.2.2.2.2.2.2.2.2.2.1]; exact Nat.le_trans (show ((([] : List Value).map fun v => v.category).sum) + (nativeFrameWords "java/lang/System" "arraycopy" 5 + 11) ≤ 40 by decide) (by omega)) hd (fun H1 locs1 hP1 hD1 hS1 => ?_)
  have e : (cels G w).set kd (ga G kd, .inl (gt G 0, 121, .inl (va_cpy (fun j => Int32.ofInt (w ks (j : Int))) (fun j => Int32.ofInt (w kd (j : Int))) (Int32.ofInt 0).toNatClampNeg (Int32.ofInt 0).toNatClampNeg (Int32.ofInt 121).toNatClampNeg))) = cels G (cpA w kd ks) := by
    refine cels_upd (fun k' h => cpA_c h) ?_
    rw [cel_A hsd]
    have z : (Int32.ofInt 0).toNatClampNeg = 0 := by decide
    have z2 : (Int32.ofInt 121).toNatClampNeg = 121 := by decide
    rw [z, z2]
    congr 4
    funext j
    unfold va_cpy cpA
    by_cases h : j < 121
    · rw [if_pos ⟨rfl, by omega, by omega⟩, if_pos ⟨by omega, by omega⟩]; simp
    · rw [if_neg (by omega), if_neg (by omega)]
  rw [e] at hP1 hD1
  refine kk _ rfl H1 locs1 ls hP1 hD1 hS1 ⟨fun k t n hs j h0 hj => ?_, fun k ci fs hs j c hc => ?_⟩ hl
  · unfold cpA
    split
    next q =>
      obtain ⟨rfl, q1, q2⟩ := q
      rw [hsd] at hs
      cases hs
      exact hO.1 ks 0 121 hss j q1 q2
    next q => exact hO.1 k t n hs j h0 hj
  · unfold cpA
    split
    next q =>
      obtain ⟨rfl, q1, q2⟩ := q
      rw [hsd] at hs
      cases hs
    next q => exact hO.2 k ci fs hs j c hc
def hS (C : (Int → Int) → Prop) (w : Wd) (c : Nat) (n f t m : Int) (u : Wd) : Prop := (∀ k, k ≠ c → u k = w k) ∧ ((∃ v, C v ∧ v t - v f ≤ m) → rep n (mat u c) (fun v => C v ∧ v t - v f ≤ m)) ∧ (¬ (∃ v, C v ∧ v t - v f ≤ m) → u = w)
theorem hS_of {C : (Int → Int) → Prop} {w u : Wd} {c : Nat} {n f t m : Int} (f0 : 0 ≤ f) (f1 : f < n) (t0 : 0 ≤ t) (t1 : t < n) (hr : rep n (mat w c) C) (h : hR w c n f t m u) : hS C w c n f t m u := by
  have e := rep_ex hr f0 f1 t0 t1 (m := m)
  exact ⟨h.1, fun q => rep_m (fun a b a0 a1 b0 b1 => (h.2.1 (e.mpr q) a b a0 a1 b0 b1).symm) (rep_hld hr f0 f1 t0 t1 q), fun q => h.2.2 (fun z => q (e.mp z))⟩
theorem pB_c {P Q : Prop} {R S : Wd → Prop} (h : P ↔ Q) (hw : ∀ u, R u → S u) (v : Option Value) (u : Wd) (k : pB P R v u) : pB Q S v u := ⟨by rw [← bi_c h]; exact k.1, hw u k.2⟩
def kS (C : (Int → Int) → Prop) (f t lo hi : Int) (v : Int → Int) : Prop := C v ∧ lo ≤ v t - v f ∧ v t - v f ≤ hi

theorem c_hold_21 {B : Bs} {w : Wd} {f t m : Int} {C : (Int → Int) → Prop} (hn : 1 ≤ w 21 1 ∧ w 21 1 ≤ 11) (f0 : 0 ≤ f) (f1 : f < w 21 1) (t0 : 0 ≤ t) (t1 : t < w 21 1) (hm : -100000 ≤ m ∧ m ≤ 100000) (hr : rep (w 21 1) (mat w 22) C) : Sp (GX B) 0 yX0_hold cX0_hold 10 (Option.some FieldType.boolean) [.ref (ga (GX B) (21)), iv (f), iv (t), iv (m)] w (pB (∃ v, C v ∧ v t - v f ≤ m) (hS C w 22 (w 21 1) f t m)) :=
  Sp.mono (c_X0_hold_21 hn f0 f1 t0 t1 hm hr.1) (pB_c (rep_ex hr f0 f1 t0 t1) (fun _ h => hS_of f0 f1 t0 t1 hr h))

set_option maxRecDepth 100000 in
set_option maxHeartbeats 4000000 in
theorem c_X0_keep_21 {B : Bs} {w : Wd} {f t lo hi : Int} {C : (Int → Int) → Prop} (hn : 1 ≤ w 21 1 ∧ w 21 1 ≤ 11) (f0 : 0 ≤ f) (f1 : f < w 21 1) (t0 : 0 ≤ t) (t1 : t < w 21 1) (hm : -100000 ≤ lo ∧ lo ≤ 100000 ∧ -100000 ≤ hi ∧ hi ≤ 100000) (hr : rep (w 21 1) (mat w 22) C) : Sp (GX B) 1 yX0_keep cX0_keep 5 (Option.some FieldType.boolean) [.ref (ga (GX B) (21)), iv (f), iv (t), iv (lo), iv (hi)] w (pB (∃ v, kS C f t lo hi v) (fun u => (∀ k, k ≠ 22 → u k = w k) ∧ ((∃ v, kS C f t lo hi v) → rep (w 21 1) (mat u 22) (kS C f t lo hi)))) := by
  refine Sp.of (by decide) (Nat.le_of_ble_eq_true rfl) (fun X F => ?_)
  show Jw (GX B) X _ 0 [some (.ref (ga (GX B) (21))), some (iv (f)), some (iv (t)), some (iv (lo)), some (iv (hi))] [] w
  refine jr_aload_n F dX0_keep_0 rfl ?_
  refine jr_iload_n F dX0_keep_1 rfl ?_
  refine jr_iload_n F dX0_keep_2 rfl ?_
  refine jr_iload F dX0_keep_3 rfl ?_
  refine jr_vB F dX0_keep_5 cv_X0_37 (c_hold_21 hn f0 f1 t0 t1 (by omega) hr) (Nat.le_of_ble_eq_true rfl) rfl rfl rfl rfl (Nat.le_of_ble_eq_true rfl) (Nat.le_of_ble_eq_true rfl) rfl (Nat.le_of_ble_eq_true rfl) (fun w5 h5 => ?_)
  refine jr_ifeq_b (tgt := 26) F dX0_keep_8 (by decide) (fun c8 => ?_) (fun c8 => ?_)
  · skip
    refine jr_iconst F dX0_keep_26 ?_
    exact jr_zret F dX0_keep_27 (pB_of (bi_f (fun ⟨v, q⟩ => c8 ⟨v, q.1, q.2.2⟩)).symm ⟨h5.1, fun ⟨v, q⟩ => absurd ⟨v, q.1, q.2.2⟩ c8⟩) (by omega)
  · skip
    have w1 : w5 21 1 = w 21 1 := by rw [h5.1 21 (by decide)]
    refine jr_aload_n F dX0_keep_11 rfl ?_
    refine jr_iload_n F dX0_keep_12 rfl ?_
    refine jr_iload_n F dX0_keep_13 rfl ?_
    refine jr_iload_n F dX0_keep_14 rfl ?_
    refine jr_ineg F dX0_keep_15 ?_
    refine jr_vB F dX0_keep_16 cv_X0_37 (c_hold_21 (by rw [w1]; exact hn) t0 (by rw [w1]; exact t1) f0 (by rw [w1]; exact f1) (by omega) (by rw [w1]; exact h5.2.1 c8)) (Nat.le_of_ble_eq_true rfl) rfl rfl rfl rfl (Nat.le_of_ble_eq_true rfl) (Nat.le_of_ble_eq_true rfl) rfl (Nat.le_of_ble_eq_true rfl) (fun w16 h16 => ?_)
    refine jr_ifeq_b (tgt := 26) F dX0_keep_19 (by decide) (fun c19 => ?_) (fun c19 => ?_)
    · skip
      refine jr_iconst F dX0_keep_26 ?_
      exact jr_zret F dX0_keep_27 (pB_of (bi_f (fun ⟨v, q⟩ => c19 ⟨v, ⟨q.1, q.2.2⟩, by have := q.2.1; omega⟩)).symm ⟨fun k hk => (h16.1 k hk).trans (h5.1 k hk), fun ⟨v, q⟩ => absurd ⟨v, ⟨q.1, q.2.2⟩, by have := q.2.1; omega⟩ c19⟩) (by omega)
    · skip
      refine jr_iconst F dX0_keep_22 ?_
      refine jr_goto (tgt := 27) F dX0_keep_23 (by decide) ?_
      exact jr_zret F dX0_keep_27 (pB_of (bi_t (by obtain ⟨v, q, q2⟩ := c19; exact ⟨v, q.1, by omega, q.2⟩)).symm ⟨fun k hk => (h16.1 k hk).trans (h5.1 k hk), fun _ => by rw [← w1]; exact rep_c (h16.2.1 c19) (fun v => ⟨fun q => ⟨q.1.1, by have := q.2; omega, q.1.2⟩, fun q => ⟨⟨q.1, q.2.2⟩, by have := q.2.1; omega⟩⟩)⟩) (by omega)

theorem c_hold_23 {B : Bs} {w : Wd} {f t m : Int} {C : (Int → Int) → Prop} (hn : 1 ≤ w 23 1 ∧ w 23 1 ≤ 11) (f0 : 0 ≤ f) (f1 : f < w 23 1) (t0 : 0 ≤ t) (t1 : t < w 23 1) (hm : -100000 ≤ m ∧ m ≤ 100000) (hr : rep (w 23 1) (mat w 24) C) : Sp (GX B) 0 yX0_hold cX0_hold 10 (Option.some FieldType.boolean) [.ref (ga (GX B) (23)), iv (f), iv (t), iv (m)] w (pB (∃ v, C v ∧ v t - v f ≤ m) (hS C w 24 (w 23 1) f t m)) :=
  Sp.mono (c_X0_hold_23 hn f0 f1 t0 t1 hm hr.1) (pB_c (rep_ex hr f0 f1 t0 t1) (fun _ h => hS_of f0 f1 t0 t1 hr h))

set_option maxRecDepth 100000 in
set_option maxHeartbeats 4000000 in
theorem c_X0_keep_23 {B : Bs} {w : Wd} {f t lo hi : Int} {C : (Int → Int) → Prop} (hn : 1 ≤ w 23 1 ∧ w 23 1 ≤ 11) (f0 : 0 ≤ f) (f1 : f < w 23 1) (t0 : 0 ≤ t) (t1 : t < w 23 1) (hm : -100000 ≤ lo ∧ lo ≤ 100000 ∧ -100000 ≤ hi ∧ hi ≤ 100000) (hr : rep (w 23 1) (mat w 24) C) : Sp (GX B) 1 yX0_keep cX0_keep 5 (Option.some FieldType.boolean) [.ref (ga (GX B) (23)), iv (f), iv (t), iv (lo), iv (hi)] w (pB (∃ v, kS C f t lo hi v) (fun u => (∀ k, k ≠ 24 → u k = w k) ∧ ((∃ v, kS C f t lo hi v) → rep (w 23 1) (mat u 24) (kS C f t lo hi)))) := by
  refine Sp.of (by decide) (Nat.le_of_ble_eq_true rfl) (fun X F => ?_)
  show Jw (GX B) X _ 0 [some (.ref (ga (GX B) (23))), some (iv (f)), some (iv (t)), some (iv (lo)), some (iv (hi))] [] w
  refine jr_aload_n F dX0_keep_0 rfl ?_
  refine jr_iload_n F dX0_keep_1 rfl ?_
  refine jr_iload_n F dX0_keep_2 rfl ?_
  refine jr_iload F dX0_keep_3 rfl ?_
  refine jr_vB F dX0_keep_5 cv_X0_37 (c_hold_23 hn f0 f1 t0 t1 (by omega) hr) (Nat.le_of_ble_eq_true rfl) rfl rfl rfl rfl (Nat.le_of_ble_eq_true rfl) (Nat.le_of_ble_eq_true rfl) rfl (Nat.le_of_ble_eq_true rfl) (fun w5 h5 => ?_)
  refine jr_ifeq_b (tgt := 26) F dX0_keep_8 (by decide) (fun c8 => ?_) (fun c8 => ?_)
  · skip
    refine jr_iconst F dX0_keep_26 ?_
    exact jr_zret F dX0_keep_27 (pB_of (bi_f (fun ⟨v, q⟩ => c8 ⟨v, q.1, q.2.2⟩)).symm ⟨h5.1, fun ⟨v, q⟩ => absurd ⟨v, q.1, q.2.2⟩ c8⟩) (by omega)
  · skip
    have w1 : w5 23 1 = w 23 1 := by rw [h5.1 23 (by decide)]
    refine jr_aload_n F dX0_keep_11 rfl ?_
    refine jr_iload_n F dX0_keep_12 rfl ?_
    refine jr_iload_n F dX0_keep_13 rfl ?_
    refine jr_iload_n F dX0_keep_14 rfl ?_
    refine jr_ineg F dX0_keep_15 ?_
    refine jr_vB F dX0_keep_16 cv_X0_37 (c_hold_23 (by rw [w1]; exact hn) t0 (by rw [w1]; exact t1) f0 (by rw [w1]; exact f1) (by omega) (by rw [w1]; exact h5.2.1 c8)) (Nat.le_of_ble_eq_true rfl) rfl rfl rfl rfl (Nat.le_of_ble_eq_true rfl) (Nat.le_of_ble_eq_true rfl) rfl (Nat.le_of_ble_eq_true rfl) (fun w16 h16 => ?_)
    refine jr_ifeq_b (tgt := 26) F dX0_keep_19 (by decide) (fun c19 => ?_) (fun c19 => ?_)
    · skip
      refine jr_iconst F dX0_keep_26 ?_
      exact jr_zret F dX0_keep_27 (pB_of (bi_f (fun ⟨v, q⟩ => c19 ⟨v, ⟨q.1, q.2.2⟩, by have := q.2.1; omega⟩)).symm ⟨fun k hk => (h16.1 k hk).trans (h5.1 k hk), fun ⟨v, q⟩ => absurd ⟨v, ⟨q.1, q.2.2⟩, by have := q.2.1; omega⟩ c19⟩) (by omega)
    · skip
      refine jr_iconst F dX0_keep_22 ?_
      refine jr_goto (tgt := 27) F dX0_keep_23 (by decide) ?_
      exact jr_zret F dX0_keep_27 (pB_of (bi_t (by obtain ⟨v, q, q2⟩ := c19; exact ⟨v, q.1, by omega, q.2⟩)).symm ⟨fun k hk => (h16.1 k hk).trans (h5.1 k hk), fun _ => by rw [← w1]; exact rep_c (h16.2.1 c19) (fun v => ⟨fun q => ⟨q.1.1, by have := q.2; omega, q.1.2⟩, fun q => ⟨⟨q.1, q.2.2⟩, by have := q.2.1; omega⟩⟩)⟩) (by omega)

theorem c_hold_25 {B : Bs} {w : Wd} {f t m : Int} {C : (Int → Int) → Prop} (hn : 1 ≤ w 25 1 ∧ w 25 1 ≤ 11) (f0 : 0 ≤ f) (f1 : f < w 25 1) (t0 : 0 ≤ t) (t1 : t < w 25 1) (hm : -100000 ≤ m ∧ m ≤ 100000) (hr : rep (w 25 1) (mat w 26) C) : Sp (GX B) 0 yX0_hold cX0_hold 10 (Option.some FieldType.boolean) [.ref (ga (GX B) (25)), iv (f), iv (t), iv (m)] w (pB (∃ v, C v ∧ v t - v f ≤ m) (hS C w 26 (w 25 1) f t m)) :=
  Sp.mono (c_X0_hold_25 hn f0 f1 t0 t1 hm hr.1) (pB_c (rep_ex hr f0 f1 t0 t1) (fun _ h => hS_of f0 f1 t0 t1 hr h))

set_option maxRecDepth 100000 in
set_option maxHeartbeats 4000000 in
theorem c_X0_keep_25 {B : Bs} {w : Wd} {f t lo hi : Int} {C : (Int → Int) → Prop} (hn : 1 ≤ w 25 1 ∧ w 25 1 ≤ 11) (f0 : 0 ≤ f) (f1 : f < w 25 1) (t0 : 0 ≤ t) (t1 : t < w 25 1) (hm : -100000 ≤ lo ∧ lo ≤ 100000 ∧ -100000 ≤ hi ∧ hi ≤ 100000) (hr : rep (w 25 1) (mat w 26) C) : Sp (GX B) 1 yX0_keep cX0_keep 5 (Option.some FieldType.boolean) [.ref (ga (GX B) (25)), iv (f), iv (t), iv (lo), iv (hi)] w (pB (∃ v, kS C f t lo hi v) (fun u => (∀ k, k ≠ 26 → u k = w k) ∧ ((∃ v, kS C f t lo hi v) → rep (w 25 1) (mat u 26) (kS C f t lo hi)))) := by
  refine Sp.of (by decide) (Nat.le_of_ble_eq_true rfl) (fun X F => ?_)
  show Jw (GX B) X _ 0 [some (.ref (ga (GX B) (25))), some (iv (f)), some (iv (t)), some (iv (lo)), some (iv (hi))] [] w
  refine jr_aload_n F dX0_keep_0 rfl ?_
  refine jr_iload_n F dX0_keep_1 rfl ?_
  refine jr_iload_n F dX0_keep_2 rfl ?_
  refine jr_iload F dX0_keep_3 rfl ?_
  refine jr_vB F dX0_keep_5 cv_X0_37 (c_hold_25 hn f0 f1 t0 t1 (by omega) hr) (Nat.le_of_ble_eq_true rfl) rfl rfl rfl rfl (Nat.le_of_ble_eq_true rfl) (Nat.le_of_ble_eq_true rfl) rfl (Nat.le_of_ble_eq_true rfl) (fun w5 h5 => ?_)
  refine jr_ifeq_b (tgt := 26) F dX0_keep_8 (by decide) (fun c8 => ?_) (fun c8 => ?_)
  · skip
    refine jr_iconst F dX0_keep_26 ?_
    exact jr_zret F dX0_keep_27 (pB_of (bi_f (fun ⟨v, q⟩ => c8 ⟨v, q.1, q.2.2⟩)).symm ⟨h5.1, fun ⟨v, q⟩ => absurd ⟨v, q.1, q.2.2⟩ c8⟩) (by omega)
  · skip
    have w1 : w5 25 1 = w 25 1 := by rw [h5.1 25 (by decide)]
    refine jr_aload_n F dX0_keep_11 rfl ?_
    refine jr_iload_n F dX0_keep_12 rfl ?_
    refine jr_iload_n F dX0_keep_13 rfl ?_
    refine jr_iload_n F dX0_keep_14 rfl ?_
    refine jr_ineg F dX0_keep_15 ?_
    refine jr_vB F dX0_keep_16 cv_X0_37 (c_hold_25 (by rw [w1]; exact hn) t0 (by rw [w1]; exact t1) f0 (by rw [w1]; exact f1) (by omega) (by rw [w1]; exact h5.2.1 c8)) (Nat.le_of_ble_eq_true rfl) rfl rfl rfl rfl (Nat.le_of_ble_eq_true rfl) (Nat.le_of_ble_eq_true rfl) rfl (Nat.le_of_ble_eq_true rfl) (fun w16 h16 => ?_)
    refine jr_ifeq_b (tgt := 26) F dX0_keep_19 (by decide) (fun c19 => ?_) (fun c19 => ?_)
    · skip
      refine jr_iconst F dX0_keep_26 ?_
      exact jr_zret F dX0_keep_27 (pB_of (bi_f (fun ⟨v, q⟩ => c19 ⟨v, ⟨q.1, q.2.2⟩, by have := q.2.1; omega⟩)).symm ⟨fun k hk => (h16.1 k hk).trans (h5.1 k hk), fun ⟨v, q⟩ => absurd ⟨v, ⟨q.1, q.2.2⟩, by have := q.2.1; omega⟩ c19⟩) (by omega)
    · skip
      refine jr_iconst F dX0_keep_22 ?_
      refine jr_goto (tgt := 27) F dX0_keep_23 (by decide) ?_
      exact jr_zret F dX0_keep_27 (pB_of (bi_t (by obtain ⟨v, q, q2⟩ := c19; exact ⟨v, q.1, by omega, q.2⟩)).symm ⟨fun k hk => (h16.1 k hk).trans (h5.1 k hk), fun _ => by rw [← w1]; exact rep_c (h16.2.1 c19) (fun v => ⟨fun q => ⟨q.1.1, by have := q.2; omega, q.1.2⟩, fun q => ⟨⟨q.1, q.2.2⟩, by have := q.2.1; omega⟩⟩)⟩) (by omega)

set_option maxRecDepth 100000 in
set_option maxHeartbeats 4000000 in
theorem c_X0_copy_23 {B : Bs} {w : Wd}   : Sp (GX B) 1 yX0_copy cX0_copy 2 (Option.none : Option FieldType) [.ref (ga (GX B) (23)), .ref (ga (GX B) (21))] w (pV (cpA (up w 23 1 (w 21 1)) 24 22)) := by
  refine Sp.of (by decide) (Nat.le_of_ble_eq_true rfl) (fun X F => ?_)
  show Jw (GX B) X _ 0 [some (.ref (ga (GX B) (23))), some (.ref (ga (GX B) (21)))] [] w
  refine jr_aload_n F dX0_copy_0 rfl ?_
  refine jr_aload_n F dX0_copy_1 rfl ?_
  refine jr_getIx F (w 21 1) dX0_copy_2 fg_X0_15 (Nat.le_of_ble_eq_true rfl) rfl rfl rfl (fun q2 => ?_)
  refine jr_putIx F dX0_copy_5 fp_X0_15 (Nat.le_of_ble_eq_true rfl) rfl rfl (by omega) (fun w5 e5 => ?_)
  refine jr_aload_n F dX0_copy_8 rfl ?_
  refine jr_getR (t := 22) F dX0_copy_9 fg_X0_11 (Nat.le_of_ble_eq_true rfl) rfl rfl ?_
  refine jr_iconst F dX0_copy_12 ?_
  refine jr_aload_n F dX0_copy_13 rfl ?_
  refine jr_getR (t := 24) F dX0_copy_14 fg_X0_11 (Nat.le_of_ble_eq_true rfl) rfl rfl ?_
  refine jr_iconst F dX0_copy_17 ?_
  refine jr_bipush F dX0_copy_18 (by decide) ?_
  refine jr_copy F dX0_copy_20 (Nat.le_of_ble_eq_true rfl) (Nat.le_of_ble_eq_true rfl) rfl rfl (by omega) (fun w20 e20 => ?_)
  exact jr_vret F dX0_copy_23 ⟨rfl, by subst e20; subst e5; rfl⟩

set_option maxRecDepth 100000 in
set_option maxHeartbeats 4000000 in
theorem c_X0_copy_25 {B : Bs} {w : Wd}   : Sp (GX B) 1 yX0_copy cX0_copy 2 (Option.none : Option FieldType) [.ref (ga (GX B) (25)), .ref (ga (GX B) (23))] w (pV (cpA (up w 25 1 (w 23 1)) 26 24)) := by
  refine Sp.of (by decide) (Nat.le_of_ble_eq_true rfl) (fun X F => ?_)
  show Jw (GX B) X _ 0 [some (.ref (ga (GX B) (25))), some (.ref (ga (GX B) (23)))] [] w
  refine jr_aload_n F dX0_copy_0 rfl ?_
  refine jr_aload_n F dX0_copy_1 rfl ?_
  refine jr_getIx F (w 23 1) dX0_copy_2 fg_X0_15 (Nat.le_of_ble_eq_true rfl) rfl rfl rfl (fun q2 => ?_)
  refine jr_putIx F dX0_copy_5 fp_X0_15 (Nat.le_of_ble_eq_true rfl) rfl rfl (by omega) (fun w5 e5 => ?_)
  refine jr_aload_n F dX0_copy_8 rfl ?_
  refine jr_getR (t := 24) F dX0_copy_9 fg_X0_11 (Nat.le_of_ble_eq_true rfl) rfl rfl ?_
  refine jr_iconst F dX0_copy_12 ?_
  refine jr_aload_n F dX0_copy_13 rfl ?_
  refine jr_getR (t := 26) F dX0_copy_14 fg_X0_11 (Nat.le_of_ble_eq_true rfl) rfl rfl ?_
  refine jr_iconst F dX0_copy_17 ?_
  refine jr_bipush F dX0_copy_18 (by decide) ?_
  refine jr_copy F dX0_copy_20 (Nat.le_of_ble_eq_true rfl) (Nat.le_of_ble_eq_true rfl) rfl rfl (by omega) (fun w20 e20 => ?_)
  exact jr_vret F dX0_copy_23 ⟨rfl, by subst e20; subst e5; rfl⟩

def clr (a b : Int) : Int := if a = b then 0 else (if a = 0 then 0 else 2000) + (if b = 0 then 0 else 2000)
def cin (w u : Wd) (n a b : Int) : Prop := (∀ k, k ≠ 21 → k ≠ 22 → u k = w k) ∧ u 21 1 = n ∧ ∀ a' b' : Int, 0 ≤ a' → a' < n → 0 ≤ b' → b' < n → (a' < a ∨ (a' = a ∧ b' < b)) → mat u 22 a' b' = clr a' b'
theorem cin_row {w u : Wd} {n a b : Int} (h : cin w u n a b) (hb : n ≤ b) : cin w u n (a + 1) 0 := ⟨h.1, h.2.1, fun a' b' a0 a1 b0 b1 q => h.2.2 a' b' a0 a1 b0 b1 (by omega)⟩
theorem cin_st {w u : Wd} {n a b v : Int} (h : cin w u n a b) (hn : n ≤ 11) (b0 : 0 ≤ b) (b1 : b < n) (hv : v = clr a b) : cin w (up u 22 (a * 11 + b) v) n a (b + 1) := by
  refine ⟨fun k h1 h2 => by rw [up_cell h2]; exact h.1 k h1 h2, by rw [up_cell (by decide)]; exact h.2.1, fun a' b' a0 a1 c0 c1 q => ?_⟩
  rw [mat_up b0 (by omega) c0 (by omega)]
  by_cases e : a' = a ∧ b' = b
  · rw [if_pos e, hv, e.1, e.2]
  · rw [if_neg e]; exact h.2.2 a' b' a0 a1 c0 c1 (by omega)
def Cbase (n : Int) (v : Int → Int) : Prop := ∀ a : Int, 0 ≤ a → a < n → -2000 ≤ v a - v 0 ∧ v a - v 0 ≤ 2000
theorem clr_rep {n : Int} (hn : 1 ≤ n) : rep n clr (Cbase n) := by
  refine ⟨⟨fun a _ _ => by unfold clr; rw [if_pos rfl], fun a b c _ _ _ _ _ _ => by unfold clr; (repeat' split) <;> omega, fun a _ _ => by unfold clr; (repeat' split) <;> omega⟩, fun v => ⟨fun h a a0 a1 => ?_, fun h a b a0 a1 b0 b1 => ?_⟩⟩
  · have h1 := h 0 a (by omega) (by omega) a0 a1
    have h2 := h a 0 a0 a1 (by omega) (by omega)
    unfold clr at h1 h2
    (repeat' split at h1) <;> (repeat' split at h2) <;> omega
  · have h1 := h a a0 a1
    have h2 := h b b0 b1
    unfold clr
    by_cases e : a = b
    · subst e; rw [if_pos rfl]; omega
    · rw [if_neg e]
      by_cases e1 : a = 0
      · subst e1; (repeat' split) <;> omega
      · by_cases e2 : b = 0
        · subst e2; (repeat' split) <;> omega
        · (repeat' split) <;> omega

set_option maxRecDepth 100000 in
set_option maxHeartbeats 4000000 in
theorem c_X0_clear_21 {B : Bs} {w : Wd} {n : Int} (hn : 1 ≤ n ∧ n ≤ 11) : Sp (GX B) 1 yX0_clear cX0_clear 5 (Option.none : Option FieldType) [.ref (ga (GX B) (21)), iv (n)] w (pU (fun u => (∀ k, k ≠ 21 → k ≠ 22 → u k = w k) ∧ u 21 1 = n ∧ rep n (mat u 22) (Cbase n))) := by
  refine Sp.of (by decide) (Nat.le_of_ble_eq_true rfl) (fun X F => ?_)
  show Jw (GX B) X _ 0 [some (.ref (ga (GX B) (21))), some (iv (n))] [] w
  refine jr_aload_n F dX0_clear_0 rfl ?_
  refine jr_iload_n F dX0_clear_1 rfl ?_
  refine jr_iconst F dX0_clear_2 ?_
  refine jr_bipush F dX0_clear_3 (by decide) ?_
  refine jr_nI F dX0_clear_5 cn_X0_19 (c_X7_within (by omega) (by omega) (by omega)) rfl (Nat.le_of_ble_eq_true rfl) (Nat.le_of_ble_eq_true rfl) rfl (Nat.le_of_ble_eq_true rfl) ?_
  refine jr_ifeq_b (tgt := 15) F dX0_clear_8 (by decide) (fun c8 => ?_) (fun c8 => ?_)
  · exact absurd ⟨by omega, by omega⟩ c8
  · skip
    refine jr_iload_n F dX0_clear_11 rfl ?_
    refine jr_goto (tgt := 16) F dX0_clear_12 (by decide) ?_
    refine jr_putIx F dX0_clear_16 fp_X0_15 (Nat.le_of_ble_eq_true rfl) rfl rfl (by omega) (fun w16 e16 => ?_)
    refine jr_iconst F dX0_clear_19 ?_
    refine jr_istore_n F dX0_clear_20 (Nat.le_of_ble_eq_true rfl) rfl ?_
    have L21 : ∀ (fuel : Nat) (u : Wd) (a : Int), (n - a).toNat < fuel → (0 ≤ a) → (a ≤ n) → (cin w u n a 0) → Jw (GX B) X (pU (fun u => (∀ k, k ≠ 21 → k ≠ 22 → u k = w k) ∧ u 21 1 = n ∧ rep n (mat u 22) (Cbase n))) 21 [some (.ref (ga (GX B) 21)), some (iv n), some (iv a)] [] u := by
      intro fuel
      induction fuel with
      | zero => intro u a hfuel; exact absurd hfuel (Nat.not_lt_zero _)
      | succ fuel ih21 =>
          intro u a hfuel a0 a1 hu
          have u1 := hu.2.1
          refine jr_iload_n F dX0_clear_21 rfl ?_
          refine jr_aload_n F dX0_clear_22 rfl ?_
          refine jr_getIx F n dX0_clear_23 fg_X0_15 (Nat.le_of_ble_eq_true rfl) rfl rfl u1 (fun q23 => ?_)
          refine jr_icmp_ge (tgt := 100) F dX0_clear_26 (by decide) (fun c26 => ?_) (fun c26 => ?_) (by omega) (by omega)
          · skip
            exact jr_vret F dX0_clear_100 ⟨rfl, hu.1, hu.2.1, rep_m (fun x y x0 x1 y0 y1 => (hu.2.2 x y x0 x1 y0 y1 (by omega)).symm) (clr_rep hn.1)⟩
          · skip
            refine jr_iconst F dX0_clear_29 ?_
            refine jr_istore_n F dX0_clear_30 (Nat.le_of_ble_eq_true rfl) rfl ?_
            have L31 : ∀ (fuel : Nat) (x : Wd) (b : Int), (n - b).toNat < fuel → (0 ≤ b) → (b ≤ n) → (cin w x n a b) → Jw (GX B) X (pU (fun u => (∀ k, k ≠ 21 → k ≠ 22 → u k = w k) ∧ u 21 1 = n ∧ rep n (mat u 22) (Cbase n))) 31 [some (.ref (ga (GX B) 21)), some (iv n), some (iv a), some (iv b)] [] x := by
              intro fuel
              induction fuel with
              | zero => intro x b hfuel; exact absurd hfuel (Nat.not_lt_zero _)
              | succ fuel ih31 =>
                  intro x b hfuel b0 b1 hx
                  have x1 := hx.2.1
                  refine jr_iload_n F dX0_clear_31 rfl ?_
                  refine jr_aload_n F dX0_clear_32 rfl ?_
                  refine jr_getIx F n dX0_clear_33 fg_X0_15 (Nat.le_of_ble_eq_true rfl) rfl rfl x1 (fun q33 => ?_)
                  refine jr_icmp_ge (tgt := 94) F dX0_clear_36 (by decide) (fun c36 => ?_) (fun c36 => ?_) (by omega) (by omega)
                  · skip
                    refine jr_iinc F dX0_clear_94 rfl (Nat.le_of_ble_eq_true rfl) rfl ?_
                    refine jr_goto (tgt := 21) F dX0_clear_97 (by decide) ?_
                    exact jr_sub (ih21 _ (a + 1) (by omega) (by omega) (by omega) (cin_row hx (by omega))) ⟨rfl, rfl, rfl, trivial⟩
                  · skip
                    refine jr_iload_n F dX0_clear_39 rfl ?_
                    refine jr_if_ne (tgt := 47) F dX0_clear_40 (by decide) (fun c40 => ?_) (fun c40 => ?_) (by omega)
                    · skip
                      refine jr_sipush F dX0_clear_47 (by decide) ?_
                      refine jr_iload_n F dX0_clear_50 rfl ?_
                      refine jr_if_ne (tgt := 58) F dX0_clear_51 (by decide) (fun c51 => ?_) (fun c51 => ?_) (by omega)
                      · skip
                        refine jr_sipush F dX0_clear_58 (by decide) ?_
                        refine jr_iadd F dX0_clear_61 ?_
                        refine jr_istore F dX0_clear_62 (Nat.le_of_ble_eq_true rfl) rfl ?_
                        refine jr_aload_n F dX0_clear_64 rfl ?_
                        refine jr_getR (t := 22) F dX0_clear_65 fg_X0_11 (Nat.le_of_ble_eq_true rfl) rfl rfl ?_
                        refine jr_iload_n F dX0_clear_68 rfl ?_
                        refine jr_bipush F dX0_clear_69 (by decide) ?_
                        refine jr_imul F dX0_clear_71 ?_
                        refine jr_iload_n F dX0_clear_72 rfl ?_
                        refine jr_iadd F dX0_clear_73 ?_
                        refine jr_iload_n F dX0_clear_74 rfl ?_
                        refine jr_iload_n F dX0_clear_75 rfl ?_
                        refine jr_icmp_ne (tgt := 83) F dX0_clear_76 (by decide) (fun c76 => ?_) (fun c76 => ?_) (by omega) (by omega)
                        · skip
                          refine jr_iload F dX0_clear_83 rfl ?_
                          refine jr_nVx F dX0_clear_85 cn_X0_23 (c_put_in (Nat.le_of_ble_eq_true rfl) rfl (by omega) (by omega) (by omega) (by omega)) rfl (Nat.le_of_ble_eq_true rfl) (Nat.le_of_ble_eq_true rfl) rfl (Nat.le_of_ble_eq_true rfl) (fun w85 e85 => ?_)
                          refine jr_iinc F dX0_clear_88 rfl (Nat.le_of_ble_eq_true rfl) rfl ?_
                          refine jr_goto (tgt := 31) F dX0_clear_91 (by decide) ?_
                          first | (exfalso; omega) | exact jr_sub (ih31 _ (b + 1) (by omega) (by omega) (by omega) (by subst e85; exact cin_st hx (by omega) b0 (by omega) (by unfold clr; first | (rw [if_pos (by omega)]; done) | (rw [if_neg (by omega)]; (repeat' split) <;> omega)))) ⟨rfl, rfl, rfl, rfl, trivial⟩
                        · skip
                          refine jr_iconst F dX0_clear_79 ?_
                          refine jr_goto (tgt := 85) F dX0_clear_80 (by decide) ?_
                          refine jr_nVx F dX0_clear_85 cn_X0_23 (c_put_in (Nat.le_of_ble_eq_true rfl) rfl (by omega) (by omega) (by omega) (by omega)) rfl (Nat.le_of_ble_eq_true rfl) (Nat.le_of_ble_eq_true rfl) rfl (Nat.le_of_ble_eq_true rfl) (fun w85_1 e85_1 => ?_)
                          refine jr_iinc F dX0_clear_88 rfl (Nat.le_of_ble_eq_true rfl) rfl ?_
                          refine jr_goto (tgt := 31) F dX0_clear_91 (by decide) ?_
                          first | (exfalso; omega) | exact jr_sub (ih31 _ (b + 1) (by omega) (by omega) (by omega) (by subst e85_1; exact cin_st hx (by omega) b0 (by omega) (by unfold clr; first | (rw [if_pos (by omega)]; done) | (rw [if_neg (by omega)]; (repeat' split) <;> omega)))) ⟨rfl, rfl, rfl, rfl, trivial⟩
                      · skip
                        refine jr_iconst F dX0_clear_54 ?_
                        refine jr_goto (tgt := 61) F dX0_clear_55 (by decide) ?_
                        refine jr_iadd F dX0_clear_61 ?_
                        refine jr_istore F dX0_clear_62 (Nat.le_of_ble_eq_true rfl) rfl ?_
                        refine jr_aload_n F dX0_clear_64 rfl ?_
                        refine jr_getR (t := 22) F dX0_clear_65 fg_X0_11 (Nat.le_of_ble_eq_true rfl) rfl rfl ?_
                        refine jr_iload_n F dX0_clear_68 rfl ?_
                        refine jr_bipush F dX0_clear_69 (by decide) ?_
                        refine jr_imul F dX0_clear_71 ?_
                        refine jr_iload_n F dX0_clear_72 rfl ?_
                        refine jr_iadd F dX0_clear_73 ?_
                        refine jr_iload_n F dX0_clear_74 rfl ?_
                        refine jr_iload_n F dX0_clear_75 rfl ?_
                        refine jr_icmp_ne (tgt := 83) F dX0_clear_76 (by decide) (fun c76 => ?_) (fun c76 => ?_) (by omega) (by omega)
                        · skip
                          refine jr_iload F dX0_clear_83 rfl ?_
                          refine jr_nVx F dX0_clear_85 cn_X0_23 (c_put_in (Nat.le_of_ble_eq_true rfl) rfl (by omega) (by omega) (by omega) (by omega)) rfl (Nat.le_of_ble_eq_true rfl) (Nat.le_of_ble_eq_true rfl) rfl (Nat.le_of_ble_eq_true rfl) (fun w85_2 e85_2 => ?_)
                          refine jr_iinc F dX0_clear_88 rfl (Nat.le_of_ble_eq_true rfl) rfl ?_
                          refine jr_goto (tgt := 31) F dX0_clear_91 (by decide) ?_
                          first | (exfalso; omega) | exact jr_sub (ih31 _ (b + 1) (by omega) (by omega) (by omega) (by subst e85_2; exact cin_st hx (by omega) b0 (by omega) (by unfold clr; first | (rw [if_pos (by omega)]; done) | (rw [if_neg (by omega)]; (repeat' split) <;> omega)))) ⟨rfl, rfl, rfl, rfl, trivial⟩
                        · skip
                          refine jr_iconst F dX0_clear_79 ?_
                          refine jr_goto (tgt := 85) F dX0_clear_80 (by decide) ?_
                          refine jr_nVx F dX0_clear_85 cn_X0_23 (c_put_in (Nat.le_of_ble_eq_true rfl) rfl (by omega) (by omega) (by omega) (by omega)) rfl (Nat.le_of_ble_eq_true rfl) (Nat.le_of_ble_eq_true rfl) rfl (Nat.le_of_ble_eq_true rfl) (fun w85_3 e85_3 => ?_)
                          refine jr_iinc F dX0_clear_88 rfl (Nat.le_of_ble_eq_true rfl) rfl ?_
                          refine jr_goto (tgt := 31) F dX0_clear_91 (by decide) ?_
                          first | (exfalso; omega) | exact jr_sub (ih31 _ (b + 1) (by omega) (by omega) (by omega) (by subst e85_3; exact cin_st hx (by omega) b0 (by omega) (by unfold clr; first | (rw [if_pos (by omega)]; done) | (rw [if_neg (by omega)]; (repeat' split) <;> omega)))) ⟨rfl, rfl, rfl, rfl, trivial⟩
                    · skip
                      refine jr_iconst F dX0_clear_43 ?_
                      refine jr_goto (tgt := 50) F dX0_clear_44 (by decide) ?_
                      refine jr_iload_n F dX0_clear_50 rfl ?_
                      refine jr_if_ne (tgt := 58) F dX0_clear_51 (by decide) (fun c51 => ?_) (fun c51 => ?_) (by omega)
                      · skip
                        refine jr_sipush F dX0_clear_58 (by decide) ?_
                        refine jr_iadd F dX0_clear_61 ?_
                        refine jr_istore F dX0_clear_62 (Nat.le_of_ble_eq_true rfl) rfl ?_
                        refine jr_aload_n F dX0_clear_64 rfl ?_
                        refine jr_getR (t := 22) F dX0_clear_65 fg_X0_11 (Nat.le_of_ble_eq_true rfl) rfl rfl ?_
                        refine jr_iload_n F dX0_clear_68 rfl ?_
                        refine jr_bipush F dX0_clear_69 (by decide) ?_
                        refine jr_imul F dX0_clear_71 ?_
                        refine jr_iload_n F dX0_clear_72 rfl ?_
                        refine jr_iadd F dX0_clear_73 ?_
                        refine jr_iload_n F dX0_clear_74 rfl ?_
                        refine jr_iload_n F dX0_clear_75 rfl ?_
                        refine jr_icmp_ne (tgt := 83) F dX0_clear_76 (by decide) (fun c76 => ?_) (fun c76 => ?_) (by omega) (by omega)
                        · skip
                          refine jr_iload F dX0_clear_83 rfl ?_
                          refine jr_nVx F dX0_clear_85 cn_X0_23 (c_put_in (Nat.le_of_ble_eq_true rfl) rfl (by omega) (by omega) (by omega) (by omega)) rfl (Nat.le_of_ble_eq_true rfl) (Nat.le_of_ble_eq_true rfl) rfl (Nat.le_of_ble_eq_true rfl) (fun w85_4 e85_4 => ?_)
                          refine jr_iinc F dX0_clear_88 rfl (Nat.le_of_ble_eq_true rfl) rfl ?_
                          refine jr_goto (tgt := 31) F dX0_clear_91 (by decide) ?_
                          first | (exfalso; omega) | exact jr_sub (ih31 _ (b + 1) (by omega) (by omega) (by omega) (by subst e85_4; exact cin_st hx (by omega) b0 (by omega) (by unfold clr; first | (rw [if_pos (by omega)]; done) | (rw [if_neg (by omega)]; (repeat' split) <;> omega)))) ⟨rfl, rfl, rfl, rfl, trivial⟩
                        · skip
                          refine jr_iconst F dX0_clear_79 ?_
                          refine jr_goto (tgt := 85) F dX0_clear_80 (by decide) ?_
                          refine jr_nVx F dX0_clear_85 cn_X0_23 (c_put_in (Nat.le_of_ble_eq_true rfl) rfl (by omega) (by omega) (by omega) (by omega)) rfl (Nat.le_of_ble_eq_true rfl) (Nat.le_of_ble_eq_true rfl) rfl (Nat.le_of_ble_eq_true rfl) (fun w85_5 e85_5 => ?_)
                          refine jr_iinc F dX0_clear_88 rfl (Nat.le_of_ble_eq_true rfl) rfl ?_
                          refine jr_goto (tgt := 31) F dX0_clear_91 (by decide) ?_
                          first | (exfalso; omega) | exact jr_sub (ih31 _ (b + 1) (by omega) (by omega) (by omega) (by subst e85_5; exact cin_st hx (by omega) b0 (by omega) (by unfold clr; first | (rw [if_pos (by omega)]; done) | (rw [if_neg (by omega)]; (repeat' split) <;> omega)))) ⟨rfl, rfl, rfl, rfl, trivial⟩
                      · skip
                        refine jr_iconst F dX0_clear_54 ?_
                        refine jr_goto (tgt := 61) F dX0_clear_55 (by decide) ?_
                        refine jr_iadd F dX0_clear_61 ?_
                        refine jr_istore F dX0_clear_62 (Nat.le_of_ble_eq_true rfl) rfl ?_
                        refine jr_aload_n F dX0_clear_64 rfl ?_
                        refine jr_getR (t := 22) F dX0_clear_65 fg_X0_11 (Nat.le_of_ble_eq_true rfl) rfl rfl ?_
                        refine jr_iload_n F dX0_clear_68 rfl ?_
                        refine jr_bipush F dX0_clear_69 (by decide) ?_
                        refine jr_imul F dX0_clear_71 ?_
                        refine jr_iload_n F dX0_clear_72 rfl ?_
                        refine jr_iadd F dX0_clear_73 ?_
                        refine jr_iload_n F dX0_clear_74 rfl ?_
                        refine jr_iload_n F dX0_clear_75 rfl ?_
                        refine jr_icmp_ne (tgt := 83) F dX0_clear_76 (by decide) (fun c76 => ?_) (fun c76 => ?_) (by omega) (by omega)
                        · skip
                          refine jr_iload F dX0_clear_83 rfl ?_
                          refine jr_nVx F dX0_clear_85 cn_X0_23 (c_put_in (Nat.le_of_ble_eq_true rfl) rfl (by omega) (by omega) (by omega) (by omega)) rfl (Nat.le_of_ble_eq_true rfl) (Nat.le_of_ble_eq_true rfl) rfl (Nat.le_of_ble_eq_true rfl) (fun w85_6 e85_6 => ?_)
                          refine jr_iinc F dX0_clear_88 rfl (Nat.le_of_ble_eq_true rfl) rfl ?_
                          refine jr_goto (tgt := 31) F dX0_clear_91 (by decide) ?_
                          first | (exfalso; omega) | exact jr_sub (ih31 _ (b + 1) (by omega) (by omega) (by omega) (by subst e85_6; exact cin_st hx (by omega) b0 (by omega) (by unfold clr; first | (rw [if_pos (by omega)]; done) | (rw [if_neg (by omega)]; (repeat' split) <;> omega)))) ⟨rfl, rfl, rfl, rfl, trivial⟩
                        · skip
                          refine jr_iconst F dX0_clear_79 ?_
                          refine jr_goto (tgt := 85) F dX0_clear_80 (by decide) ?_
                          refine jr_nVx F dX0_clear_85 cn_X0_23 (c_put_in (Nat.le_of_ble_eq_true rfl) rfl (by omega) (by omega) (by omega) (by omega)) rfl (Nat.le_of_ble_eq_true rfl) (Nat.le_of_ble_eq_true rfl) rfl (Nat.le_of_ble_eq_true rfl) (fun w85_7 e85_7 => ?_)
                          refine jr_iinc F dX0_clear_88 rfl (Nat.le_of_ble_eq_true rfl) rfl ?_
                          refine jr_goto (tgt := 31) F dX0_clear_91 (by decide) ?_
                          first | (exfalso; omega) | exact jr_sub (ih31 _ (b + 1) (by omega) (by omega) (by omega) (by subst e85_7; exact cin_st hx (by omega) b0 (by omega) (by unfold clr; first | (rw [if_pos (by omega)]; done) | (rw [if_neg (by omega)]; (repeat' split) <;> omega)))) ⟨rfl, rfl, rfl, rfl, trivial⟩
            exact jr_sub (L31 _ _ 0 (Nat.lt_succ_self _) (by omega) (by omega) hu) ⟨rfl, rfl, rfl, rfl, trivial⟩
    exact jr_sub (L21 _ _ 0 (Nat.lt_succ_self _) (by omega) (by omega) ⟨fun k h1 _ => by subst e16; rw [up_cell h1], by subst e16; rfl, fun a' b' _ _ _ _ q => by omega⟩) ⟨rfl, rfl, rfl, trivial⟩

