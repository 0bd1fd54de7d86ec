/-! what holds of the class' world between calls -/
def I1 (w : Wd) : Prop := (0 ≤ w 1 3 ∧ w 1 3 ≤ 10) ∧ (w 1 4 = mra w (w 1 3) ∧ w 1 4 ≤ 3) ∧ (∀ l : Int, 0 ≤ l → l < 5 → w 4 l = lsr w l (w 1 3).toNat) ∧ ∀ r : Int, 0 ≤ r → r < w 1 3 → (0 ≤ fa w r 0 ∧ fa w r 0 ≤ 4) ∧ (0 ≤ fa w r 1 ∧ fa w r 1 ≤ 6) ∧ (1 ≤ fa w r 2 ∧ fa w r 2 ≤ 60) ∧ (0 ≤ fa w r 3 ∧ fa w r 3 ≤ 60) ∧ (fa w r 1 = 1 → fa w r 3 ≤ fa w r 2) ∧ (0 ≤ fa w r 4 ∧ fa w r 4 ≤ 9) ∧ fa w r 5 = lsr w (fa w r 0) r.toNat ∧ (¬ fa w r 5 = -1 → fa w (fa w r 5) 4 ≤ fa w r 4)
def I3 (w : Wd) : Prop := (∀ r : Int, 0 ≤ r → r < 10 → -2000 ≤ w 3 r ∧ w 3 r ≤ 2000) ∧ ∀ r : Int, w 1 3 ≤ r → w 3 r = 0
def tok (w : Wd) (t : Int) : Prop := (0 ≤ tfa w t 1 ∧ tfa w t 1 < w 1 3) ∧ (((tfa w t 0 = 0 ∨ tfa w t 0 = 3) ∧ (0 ≤ tfa w t 3 ∧ tfa w t 3 < w 1 3) ∧ ¬ tfa w t 1 = tfa w t 3) ∨ ((tfa w t 0 = 1 ∨ tfa w t 0 = 2) ∧ tfa w t 3 = -1))
def I5 (w : Wd) : Prop := ((0 ≤ w 5 3 ∧ w 5 3 ≤ 8) ∧ w 5 2 = 8) ∧ (w 5 4 = ska w (w 5 3) ∧ w 5 4 ≤ 2) ∧ (∀ i : Int, 0 ≤ i → i < 56 → -1 ≤ w 6 i ∧ w 6 i ≤ 99) ∧ (∀ i : Int, 0 ≤ i → i < 24 → -2000 ≤ w 7 i ∧ w 7 i ≤ 2000) ∧ ∀ t : Int, 0 ≤ t → t < w 5 3 → tok w t
def wok (w : Wd) (t : Int) : Prop := (0 ≤ wfa w t 1 ∧ wfa w t 1 < w 1 3) ∧ (0 ≤ wfa w t 3 ∧ wfa w t 3 < w 1 3) ∧ ¬ wfa w t 1 = wfa w t 3 ∧ wfa w t 6 = 0
def I8 (w : Wd) : Prop := ((0 ≤ w 8 3 ∧ w 8 3 ≤ 6) ∧ w 8 2 = 6) ∧ (∀ i : Int, 0 ≤ i → i < 42 → -1 ≤ w 9 i ∧ w 9 i ≤ 99) ∧ ∀ t : Int, 0 ≤ t → t < w 8 3 → wok w t
def I0 (w : Wd) : Prop := 0 ≤ w 0 8 ∧ w 0 8 ≤ 10
def I18 (w : Wd) : Prop := (0 ≤ w 18 1 ∧ w 18 1 ≤ 60) ∧ ∀ i : Int, 0 ≤ i → i < 60 → 0 ≤ w 19 i ∧ w 19 i ≤ 126
def I11 (w : Wd) : Prop := ((0 ≤ w 11 2 ∧ w 11 2 ≤ 6) ∧ (0 ≤ w 14 2 ∧ w 14 2 ≤ 6)) ∧ (∀ i : Int, 0 ≤ i → i < 360 → (0 ≤ w 12 i ∧ w 12 i ≤ 126) ∧ (0 ≤ w 15 i ∧ w 15 i ≤ 126)) ∧ (∀ i : Int, 0 ≤ i → i < 6 → (0 ≤ w 13 i ∧ w 13 i ≤ 60) ∧ (0 ≤ w 16 i ∧ w 16 i ≤ 60)) ∧ TXI w
def IX (w : Wd) : Prop := I1 w ∧ I3 w ∧ I5 w ∧ I8 w ∧ I0 w ∧ I18 w ∧ I11 w
theorem lsr_S (w : Wd) (l : Int) : ∀ n : Nat, (lsr w l n = -1 ∧ ∀ q : Int, 0 ≤ q → q < n → ¬ fa w q 0 = l) ∨ ((0 ≤ lsr w l n ∧ lsr w l n < n) ∧ fa w (lsr w l n) 0 = l ∧ ∀ q : Int, lsr w l n < q → q < n → ¬ fa w q 0 = l)
  | 0 => Or.inl ⟨rfl, fun q a b => by omega⟩
  | n + 1 => by
    rw [lsr]
    by_cases e : fa w (n : Nat) 0 = l
    · rw [if_pos e]
      exact Or.inr ⟨by omega, e, fun q a b => by omega⟩
    · rw [if_neg e]
      rcases lsr_S w l n with ⟨a, b⟩ | ⟨a, b, c⟩
      · refine Or.inl ⟨a, fun q q0 q1 => ?_⟩
        by_cases h : q = (n : Nat)
        · rw [h]; exact e
        · exact b q q0 (by omega)
      · refine Or.inr ⟨by omega, b, fun q q0 q1 => ?_⟩
        by_cases h : q = (n : Nat)
        · rw [h]; exact e
        · exact c q q0 (by omega)
theorem I1_RI {w : Wd} (h : I1 w) : RI w := by
  refine ⟨h.1, fun r r0 r1 => ?_⟩
  have n10 := h.1
  have a := h.2.2.2 r r0 r1
  have b := lsr_R w (fa w r 0) r.toNat
  refine ⟨⟨r0, by omega, fun f f0 f1 => ?_⟩, by omega, by omega, by omega, by omega⟩
  rcases (show f = 0 ∨ f = 1 ∨ f = 2 ∨ f = 3 ∨ f = 4 ∨ f = 5 by omega) with rfl | rfl | rfl | rfl | rfl | rfl <;> omega
theorem I1_INJ {w : Wd} (h : I1 w) : INJ w := by
  have key : ∀ r s : Int, 0 ≤ r → r < s → s < w 1 3 → fa w r 5 = fa w s 5 → ¬ fa w r 5 = -1 → False := by
    intro r s r0 rs s1 e hn
    have a := (h.2.2.2 r r0 (by omega)).2.2.2.2.2.2.1
    have b := (h.2.2.2 s (by omega) s1).2.2.2.2.2.2.1
    rcases lsr_S w (fa w r 0) r.toNat with c | c
    · omega
    · rcases lsr_S w (fa w s 0) s.toNat with d | d
      · omega
      · rw [← a] at c
        rw [← b] at d
        have e1 := d.2.2 r (by omega) (by omega)
        rw [← e] at d
        exact e1 (by rw [← d.2.1, c.2.1])
  intro r s r0 r1 s0 s1 e hn
  rcases (show r < s ∨ r = s ∨ s < r by omega) with q | q | q
  · exact absurd (key r s r0 q s1 e hn) id
  · exact q
  · exact absurd (key s r s0 q r1 e.symm (by omega)) id
theorem I1_M3 {w : Wd} (h : I1 w) : M3 w := by
  intro a b c d ha hb hc hd ab ac ad bc bd cd ma mb mc md
  have lt : ∀ x : Int, 0 ≤ x → x < w 1 3 → isMis (fa w x 1) → 0 ≤ mra w x ∧ mra w x < 3 := fun x x0 x1 hx => by
    have := cnq_lt (P := fun r => isMis (fa w r 1)) x0 hx x1
    have := (cnq_R (fun r => isMis (fa w r 1)) x.toNat).1
    have := h.2.1
    unfold mra at *
    omega
  have ne : ∀ x y : Int, 0 ≤ x → 0 ≤ y → isMis (fa w x 1) → isMis (fa w y 1) → ¬ x = y → ¬ mra w x = mra w y := fun x y x0 y0 hx hy q e => q (cnq_in (P := fun r => isMis (fa w r 1)) x0 y0 hx hy e)
  have := lt a ha.1 ha.2 ma
  have := lt b hb.1 hb.2 mb
  have := lt c hc.1 hc.2 mc
  have := lt d hd.1 hd.2 md
  have := ne a b ha.1 hb.1 ma mb ab
  have := ne a c ha.1 hc.1 ma mc ac
  have := ne a d ha.1 hd.1 ma md ad
  have := ne b c hb.1 hc.1 mb mc bc
  have := ne b d hb.1 hd.1 mb md bd
  have := ne c d hc.1 hd.1 mc md cd
  omega
theorem I5_f {w : Wd} (h : I5 w) (t f : Int) : -1 ≤ tfa w t f ∧ tfa w t f ≤ 99 := by
  unfold tfa
  by_cases q : 0 ≤ t * 7 + f ∧ t * 7 + f < 56
  · rw [rd_in q.1 q.2]; exact h.2.2.1 _ q.1 q.2
  · rw [rd_out (by omega)]; omega
theorem I5_y {w : Wd} (h : I5 w) {t j : Int} (t0 : 0 ≤ t) (t1 : t < 8) (j0 : 0 ≤ j) (j1 : j < 3) : -2000 ≤ tyr w t j ∧ tyr w t j ≤ 2000 := by
  rw [tyr_in t0 t1 j0 j1]; exact h.2.2.2.1 _ (by omega) (by omega)
theorem I5_TI {w : Wd} (h : I5 w) : TI w := by
  refine ⟨h.1.1, fun t t0 t1 => ?_⟩
  have n8 := h.1.1
  have a := h.2.2.2.2 t t0 t1
  unfold tok at a
  exact ⟨⟨t0, by omega, fun f _ _ => I5_f h t f, fun j j0 j1 => I5_y h t0 (by omega) j0 j1⟩, by omega, by omega, by omega⟩
theorem I5_SK {w : Wd} (h : I5 w) : SK2 w := by
  intro a b c a0 ab bc c1 sa sb sc
  have s := h.2.1
  have x1 := cnq_lt (P := fun t => tfa w t 0 = 1) a0 sa ab
  have x2 := cnq_lt (P := fun t => tfa w t 0 = 1) (by omega) sb bc
  have x3 := cnq_lt (P := fun t => tfa w t 0 = 1) (by omega) sc c1
  have x0 := (cnq_R (fun t => tfa w t 0 = 1) a.toNat).1
  unfold ska at s
  omega
theorem I5_TN {w : Wd} (h : I5 w) : TN w := by
  intro t t0 t1 q
  have a := h.2.2.2.2 t t0 t1
  unfold tok at a
  omega
theorem I8_f {w : Wd} (h : I8 w) (t f : Int) : -1 ≤ wfa w t f ∧ wfa w t f ≤ 99 := by
  unfold wfa
  by_cases q : 0 ≤ t * 7 + f ∧ t * 7 + f < 42
  · rw [rd_in q.1 q.2]; exact h.2.1 _ q.1 q.2
  · rw [rd_out (by omega)]; omega
theorem I8_WI {w : Wd} (h : I8 w) : WI w := by
  refine ⟨h.1.1, fun t t0 t1 => ?_⟩
  have n8 := h.1.1
  have a := h.2.2 t t0 t1
  unfold wok at a
  exact ⟨⟨t0, by omega, fun f _ _ => I8_f h t f⟩, by omega, by omega⟩
theorem rd_b {w : Wd} {k : Nat} {n a b : Int} (hb : -1 ≤ b) (ha : a ≤ -1) (h : ∀ i : Int, 0 ≤ i → i < n → 0 ≤ w k i ∧ w k i ≤ b) (p : Int) : -1 ≤ rd w k n p ∧ rd w k n p ≤ b := by
  by_cases q : 0 ≤ p ∧ p < n
  · rw [rd_in q.1 q.2]; have := h p q.1 q.2; omega
  · rw [rd_out q]; omega
theorem IX_SOK {w : Wd} (h : IX w) : SOK w := by
  obtain ⟨h1, h3, h5, h8, h0, h18, h11⟩ := h
  exact ⟨h1.1, h5.1.1, h11.1.1, h11.1.2, rd_b (a := -1) (by omega) (by omega) (fun i a b => (h11.2.1 i a b).1), rd_b (a := -1) (by omega) (by omega) (fun i a b => (h11.2.1 i a b).2), rd_b (a := -1) (by omega) (by omega) (fun i a b => (h11.2.2.1 i a b).1), rd_b (a := -1) (by omega) (by omega) (fun i a b => (h11.2.2.1 i a b).2), fun t f _ _ => I5_f h5 t f⟩
theorem IX_QI {w : Wd} (h : IX w) : QI w := by
  have s := IX_SOK h
  obtain ⟨h1, h3, h5, h8, h0, h18, h11⟩ := h
  exact ⟨s, I1_RI h1, I1_INJ h1, I1_M3 h1, I5_TI h5, I5_SK h5, I8_WI h8, fun q r hq _ _ => cnt_01 h11.2.2.2 h11.1.1 h11.1.2 hq⟩
theorem IX_IM {w : Wd} (h : IX w) : IM w := by
  obtain ⟨h1, h3, h5, h8, h0, h18, h11⟩ := h
  have a := h5.2.1
  have c := h1.2.1
  refine ⟨⟨I1_RI h1, I1_INJ h1, I5_TI h5, I8_WI h8, I5_TN h5⟩, ⟨by omega, by omega⟩, fun r r0 r1 q => (h1.2.2.2 r r0 r1).2.2.2.2.2.2.2 q, fun t t0 t1 q => ?_, fun t t0 t1 => (h8.2.2 t t0 t1).2.2.1, h11.1, h11.2.2.2⟩
  have a := h5.2.2.2.2 t t0 t1
  unfold tok at a
  omega
theorem I3_td {w : Wd} (h : I3 w) (r : Int) : -2000 ≤ td w r ∧ td w r ≤ 2000 := by
  unfold td
  by_cases q : 0 ≤ r ∧ r < 10
  · rw [rd_in q.1 q.2]; exact h.1 r q.1 q.2
  · rw [rd_out q]; omega
theorem I18_p {w : Wd} (h : I18 w) (i : Int) : -1 ≤ pgl w i ∧ pgl w i ≤ 126 := rd_b (a := -1) (by omega) (by omega) h.2 i
/-! a world that is alike keeps it -/
theorem I1_c {w u : Wd} (h1 : u 1 = w 1) (h2 : u 2 = w 2) (h4 : u 4 = w 4) (h : I1 w) : I1 u := by
  have fA : fa u = fa w := cell_fa h2
  have lA : ∀ (l : Int) (n : Nat), lsr u l n = lsr w l n := by
    intro l n
    induction n with
    | zero => rfl
    | succ n ih => rw [lsr, lsr, ih, fA]
  have mA : mra u = mra w := by funext t; unfold mra; rw [fA]
  unfold I1
  rw [h1, h4, fA, mA]
  refine ⟨h.1, h.2.1, fun l a b => by rw [lA]; exact h.2.2.1 l a b, fun r a b => ?_⟩
  have q := h.2.2.2 r a b
  rw [lA]
  exact q
theorem I3_c {w u : Wd} (h1 : u 1 = w 1) (h3 : u 3 = w 3) (h : I3 w) : I3 u := by unfold I3; rw [h1, h3]; exact h
theorem I5_c {w u : Wd} (h1 : u 1 = w 1) (h5 : u 5 = w 5) (h6 : u 6 = w 6) (h7 : u 7 = w 7) (h : I5 w) : I5 u := by
  have tA : tfa u = tfa w := cell_tfa h6
  have kA : ska u = ska w := by funext t; unfold ska; rw [tA]
  unfold I5 tok
  rw [h1, h5, h6, h7, tA, kA]
  exact h
theorem I8_c {w u : Wd} (h1 : u 1 = w 1) (h8 : u 8 = w 8) (h9 : u 9 = w 9) (h : I8 w) : I8 u := by
  unfold I8 wok
  rw [h1, h8, h9, cell_wfa h9]
  exact h
theorem I0_c {w u : Wd} (h0 : u 0 = w 0) (h : I0 w) : I0 u := by unfold I0; rw [h0]; exact h
theorem I18_c {w u : Wd} (h : u 18 1 = w 18 1) (h2 : u 19 = w 19) (g : I18 w) : I18 u := by unfold I18; rw [h, h2]; exact g
theorem I11_c {w u : Wd} (h11 : u 11 = w 11) (h12 : u 12 = w 12) (h13 : u 13 = w 13) (h14 : u 14 = w 14) (h15 : u 15 = w 15) (h16 : u 16 = w 16) (g : I11 w) : I11 u := by
  unfold I11 TXI TXo at *
  have r12 : rd u 12 360 = rd w 12 360 := by funext i; exact rd_c h12 _ _
  have r13 : rd u 13 6 = rd w 13 6 := by funext i; exact rd_c h13 _ _
  have r15 : rd u 15 360 = rd w 15 360 := by funext i; exact rd_c h15 _ _
  have r16 : rd u 16 6 = rd w 16 6 := by funext i; exact rd_c h16 _ _
  rw [h11, h12, h13, h14, h15, h16, r12, r13, r15, r16]
  exact g
theorem IX_sq {w u : Wd} (h : sq w u) (g : IX w) : IX u := by
  have c : ∀ k : Nat, k ≠ 17 → k < 20 → u k = w k := h
  exact ⟨I1_c (c 1 (by decide) (by decide)) (c 2 (by decide) (by decide)) (c 4 (by decide) (by decide)) g.1, I3_c (c 1 (by decide) (by decide)) (c 3 (by decide) (by decide)) g.2.1, I5_c (c 1 (by decide) (by decide)) (c 5 (by decide) (by decide)) (c 6 (by decide) (by decide)) (c 7 (by decide) (by decide)) g.2.2.1, I8_c (c 1 (by decide) (by decide)) (c 8 (by decide) (by decide)) (c 9 (by decide) (by decide)) g.2.2.2.1, I0_c (c 0 (by decide) (by decide)) g.2.2.2.2.1, I18_c (by rw [c 18 (by decide) (by decide)]) (c 19 (by decide) (by decide)) g.2.2.2.2.2.1, I11_c (c 11 (by decide) (by decide)) (c 12 (by decide) (by decide)) (c 13 (by decide) (by decide)) (c 14 (by decide) (by decide)) (c 15 (by decide) (by decide)) (c 16 (by decide) (by decide)) g.2.2.2.2.2.2⟩
theorem RM_sq {w u m : Wd} (h : sq w u) (g : RM w m) : RM u m := by
  have c : ∀ k : Nat, k ≠ 17 → k < 20 → u k = w k := h
  obtain ⟨⟨a1, a2, a3, a4, a5⟩, b, d, e, f⟩ := g
  refine ⟨⟨by rw [c 1 (by decide) (by decide)]; exact a1, by rw [c 5 (by decide) (by decide)]; exact a2, by rw [c 18 (by decide) (by decide)]; exact a3, by rw [c 8 (by decide) (by decide)]; exact a4, by rw [c 0 (by decide) (by decide)]; exact a5⟩, ?_, ?_, ?_, ?_⟩
  · unfold RMr; rw [c 2 (by decide) (by decide)]; exact b
  · unfold RMt; rw [c 3 (by decide) (by decide), c 6 (by decide) (by decide), c 7 (by decide) (by decide), c 19 (by decide) (by decide)]; exact d
  · unfold RMs; rw [c 11 (by decide) (by decide), c 12 (by decide) (by decide), c 13 (by decide) (by decide), c 14 (by decide) (by decide), c 15 (by decide) (by decide), c 16 (by decide) (by decide)]; exact e
  · unfold RMw; rw [c 9 (by decide) (by decide)]; exact f
def INV (w : Wd × Wd) : Prop := IX w.1 ∧ RM w.1 w.2
theorem INV_q {w m u n : Wd} (h : IX w ∧ RM w m) (a : sq w u) (b : sm m n) : INV (u, n) := ⟨IX_sq a h.1, sm_RM b (RM_sq a h.2)⟩

