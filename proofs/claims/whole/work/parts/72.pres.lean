theorem I1_q4 {w : Wd} (h : I1 w) : 0 ≤ w 1 4 ∧ w 1 4 ≤ 10 := by
  have a := (cnq_R (fun r => isMis (fa w r 1)) (w 1 3).toNat).1
  have b := h.2.1
  unfold mra at b
  omega
theorem I1_q5 {w : Wd} (h : I1 w) : ∀ j : Int, 0 ≤ j → j < 5 → -1 ≤ w 4 j ∧ w 4 j < w 1 3 := fun j a b => by
  have c := h.2.2.1 j a b
  have d := lsr_R w j (w 1 3).toNat
  have e := h.1
  omega
theorem I5_q4 {w : Wd} (h : I5 w) : 0 ≤ w 5 4 ∧ w 5 4 ≤ 2 := by
  have a := (cnq_R (fun t => tfa w t 0 = 1) (w 5 3).toNat).1
  have b := h.2.1
  unfold ska at b
  omega
theorem I5_q1 {w : Wd} (h : IX w) : ∀ t : Int, 0 ≤ t → t < w 5 3 → 0 ≤ tfa w t 1 ∧ tfa w t 1 < 10 := fun t a b => by
  have c := (h.2.2.1.2.2.2.2 t a b).1
  have d := h.1.1
  omega
theorem I8_q6 {w : Wd} (h : I8 w) : ∀ t : Int, 0 ≤ t → t < w 8 3 → wfa w t 6 = 0 := fun t a b => (h.2.2 t a b).2.2.2
theorem I18_pg {w : Wd} (h : I18 w) (i : Int) : -128 ≤ pgl w i ∧ pgl w i ≤ 127 := by
  have := I18_p h i
  omega
theorem up_pair {m w : Wd} {km kw : Nat} {i j v : Int} (h : m km = w kw) (e : i = j) : up m km i v km = up w kw j v kw := by
  funext x
  unfold up
  rw [h, e]
  by_cases q : x = j
  · rw [if_pos ⟨rfl, q⟩, if_pos ⟨rfl, q⟩]
  · rw [if_neg (fun z => q z.2), if_neg (fun z => q z.2)]
theorem up_R {w : Wd} {k : Nat} {p v lo hi N : Int} (hv : lo ≤ v ∧ v ≤ hi) (h : ∀ i : Int, 0 ≤ i → i < N → lo ≤ w k i ∧ w k i ≤ hi) : ∀ i : Int, 0 ≤ i → i < N → lo ≤ up w k p v k i ∧ up w k p v k i ≤ hi := by
  intro i i0 i1
  unfold up
  by_cases q : i = p
  · rw [if_pos ⟨rfl, q⟩]; exact hv
  · rw [if_neg (fun z => q z.2)]; exact h i i0 i1
theorem up_m6 {w : Wd} {k : Nat} {r g v q f : Int} (g0 : 0 ≤ g ∧ g < 6) (f0 : 0 ≤ f ∧ f < 6) : up w k (r * 6 + g) v k (q * 6 + f) = if q = r ∧ f = g then v else w k (q * 6 + f) := by
  unfold up
  by_cases e : q = r ∧ f = g
  · rw [if_pos e, if_pos ⟨rfl, by rw [e.1, e.2]⟩]
  · rw [if_neg e, if_neg (fun z => e (by omega))]
theorem up_m7 {w : Wd} {k : Nat} {r g v q f : Int} (g0 : 0 ≤ g ∧ g < 7) (f0 : 0 ≤ f ∧ f < 7) : up w k (r * 7 + g) v k (q * 7 + f) = if q = r ∧ f = g then v else w k (q * 7 + f) := by
  unfold up
  by_cases e : q = r ∧ f = g
  · rw [if_pos e, if_pos ⟨rfl, by rw [e.1, e.2]⟩]
  · rw [if_neg e, if_neg (fun z => e (by omega))]
theorem cnq_cg {P Q : Int → Prop} : ∀ n : Nat, (∀ r : Int, 0 ≤ r → r < n → (P r ↔ Q r)) → cnq P n = cnq Q n
  | 0, _ => rfl
  | n + 1, h => by
    rw [cnq, cnq, cnq_cg n (fun r a b => h r a (by omega))]
    have := h (n : Nat) (by omega) (by omega)
    by_cases q : P (n : Nat)
    · rw [if_pos q, if_pos (this.mp q)]
    · rw [if_neg q, if_neg (fun z => q (this.mpr z))]
theorem lsr_cg {w u : Wd} (l : Int) : ∀ n : Nat, (∀ q : Int, 0 ≤ q → q < n → fa u q 0 = fa w q 0) → lsr u l n = lsr w l n
  | 0, _ => rfl
  | n + 1, h => by rw [lsr, lsr, lsr_cg l n (fun q a b => h q a (by omega)), h (n : Nat) (by omega) (by omega)]
theorem fa_u {w : Wd} {r g v q f : Int} (r0 : 0 ≤ r ∧ r < 10) (g0 : 0 ≤ g ∧ g < 6) (f0 : 0 ≤ f ∧ f < 6) : fa (up w 2 (r * 6 + g) v) q f = if q = r ∧ f = g then v else fa w q f := by
  by_cases h : 0 ≤ q * 6 + f ∧ q * 6 + f < 60
  · unfold fa
    rw [rd_in h.1 h.2, rd_in h.1 h.2, up_m6 g0 f0]
  · unfold fa
    rw [rd_out h, rd_out h, if_neg (by omega)]
theorem tfa_u {w : Wd} {r g v q f : Int} (r0 : 0 ≤ r ∧ r < 8) (g0 : 0 ≤ g ∧ g < 7) (f0 : 0 ≤ f ∧ f < 7) : tfa (up w 6 (r * 7 + g) v) q f = if q = r ∧ f = g then v else tfa w q f := by
  by_cases h : 0 ≤ q * 7 + f ∧ q * 7 + f < 56
  · unfold tfa
    rw [rd_in h.1 h.2, rd_in h.1 h.2, up_m7 g0 f0]
  · unfold tfa
    rw [rd_out h, rd_out h, if_neg (by omega)]
theorem wfa_u {w : Wd} {r g v q f : Int} (r0 : 0 ≤ r ∧ r < 6) (g0 : 0 ≤ g ∧ g < 7) (f0 : 0 ≤ f ∧ f < 7) : wfa (up w 9 (r * 7 + g) v) q f = if q = r ∧ f = g then v else wfa w q f := by
  by_cases h : 0 ≤ q * 7 + f ∧ q * 7 + f < 42
  · unfold wfa
    rw [rd_in h.1 h.2, rd_in h.1 h.2, up_m7 g0 f0]
  · unfold wfa
    rw [rd_out h, rd_out h, if_neg (by omega)]
theorem INV_a {w m a b : Wd} {r : Int} (hw : IX w ∧ RM w m) (h : 0 ≤ r → IX a ∧ RM a b) : IX (accW r a w) ∧ RM (accW r a w) (accW r b m) := by
  unfold accW
  by_cases q : 0 ≤ r
  · rw [if_pos q, if_pos q]; exact h q
  · rw [if_neg q, if_neg q]; exact hw
theorem INV_reign {w m : Wd} {l k n o e : Int} (hw : IX w ∧ RM w m) : IX (accW (reiw w l k n o e) (addRw w l k n o e) w) ∧ RM (accW (reiw w l k n o e) (addRw w l k n o e) w) (accW (reiw w l k n o e) (addRm w m l k n o e) m) := by
  sorry
theorem INV_number {w m : Wd} {r n : Int} (hw : IX w ∧ RM w m) : IX (accW (numw w r n) (up w 2 (r * 6 + 2) n) w) ∧ RM (accW (numw w r n) (up w 2 (r * 6 + 2) n) w) (accW (numw w r n) (up m 3 r n) m) := by
  refine INV_a hw (fun h => ?_)
  unfold numw at h
  by_cases c : 0 ≤ r ∧ r < w 1 3
  · rw [if_pos c] at h
    by_cases c2 : (1 ≤ n ∧ n ≤ 60) ∧ lapw w r ≤ n
    · obtain ⟨⟨h1, h3, h5, h8, h0, h18, h11⟩, a, b, c1, d, e⟩ := hw
      have n10 := h1.1
      have fU : ∀ q f : Int, 0 ≤ f → f < 6 → fa (up w 2 (r * 6 + 2) n) q f = if q = r ∧ f = 2 then n else fa w q f := fun q f f0 f1 => fa_u (by omega) (by omega) ⟨f0, f1⟩
      have fN : ∀ q f : Int, 0 ≤ f → f < 6 → ¬ f = 2 → fa (up w 2 (r * 6 + 2) n) q f = fa w q f := fun q f f0 f1 f2 => by rw [fU q f f0 f1, if_neg (fun z => f2 z.2)]
      have lS : ∀ (l : Int) (k : Nat), lsr (up w 2 (r * 6 + 2) n) l k = lsr w l k := fun l k => lsr_cg l k (fun q _ _ => fN q 0 (by omega) (by omega) (by omega))
      have mS : ∀ p : Int, mra (up w 2 (r * 6 + 2) n) p = mra w p := fun p => cnq_cg _ (fun q _ _ => by rw [fN q 1 (by omega) (by omega) (by omega)])
      refine ⟨⟨⟨h1.1, ⟨by rw [mS]; exact h1.2.1.1, h1.2.1.2⟩, fun l l0 l1 => by rw [lS]; exact h1.2.2.1 l l0 l1, fun q q0 q1 => ?_⟩, I3_c (w := w) rfl rfl h3, I5_c (w := w) rfl rfl rfl rfl h5, I8_c (w := w) rfl rfl rfl h8, I0_c (w := w) rfl h0, I18_c (w := w) rfl rfl h18, I11_c (w := w) rfl rfl rfl rfl rfl rfl h11⟩, a, fun q => ?_, c1, d, e⟩
      · have z := h1.2.2.2 q q0 q1
        have la := c2.2
        unfold lapw at la
        rw [fN q 0 (by omega) (by omega) (by omega), fN q 1 (by omega) (by omega) (by omega), fN q 3 (by omega) (by omega) (by omega), fN q 4 (by omega) (by omega) (by omega), fN q 5 (by omega) (by omega) (by omega), lS, fN _ 4 (by omega) (by omega) (by omega), fU q 2 (by omega) (by omega)]
        by_cases e2 : q = r
        · subst e2
          rw [if_pos ⟨rfl, rfl⟩]
          refine ⟨z.1, z.2.1, c2.1, z.2.2.2.1, fun k1 => ?_, z.2.2.2.2.2⟩
          rw [if_pos k1] at la
          exact la
        · rw [if_neg (fun z => e2 z.1)]
          exact z
      · obtain ⟨b1, b2, b3, b4, b5, b6⟩ := b q
        have g : ∀ f : Int, 0 ≤ f → f < 6 → ¬ f = 2 → up w 2 (r * 6 + 2) n 2 (q * 6 + f) = w 2 (q * 6 + f) := fun f f0 f1 f2 => by rw [up_m6 (by omega) ⟨f0, f1⟩, if_neg (fun z => f2 z.2)]
        refine ⟨b1.trans (g 0 (by omega) (by omega) (by omega)).symm, b2.trans (g 1 (by omega) (by omega) (by omega)).symm, ?_, b4.trans (g 3 (by omega) (by omega) (by omega)).symm, b5.trans (g 4 (by omega) (by omega) (by omega)).symm, b6.trans (g 5 (by omega) (by omega) (by omega)).symm⟩
        rw [up_m6 (by omega) (by omega)]
        by_cases e2 : q = r
        · rw [e2, up_self, if_pos ⟨rfl, rfl⟩]
        · rw [up_ne (fun z => e2 z.2), if_neg (fun z => e2 z.1)]
          exact b3
    · rw [if_neg c2] at h; omega
  · rw [if_neg c] at h; omega
theorem INV_tie {w m : Wd} {a x b y s e : Int} (hw : IX w ∧ RM w m) : IX (accW (tiew w a x b y s e) (addTw w 0 a x b y s e) w) ∧ RM (accW (tiew w a x b y s e) (addTw w 0 a x b y s e) w) (accW (tiew w a x b y s e) (addTm w m 0 a x b y s e) m) := by
  sorry
theorem INV_letter {w m : Wd} {a x b y e : Int} (hw : IX w ∧ RM w m) : IX (accW (letw w a x b y e) (addTw w 3 a x b y (-1) e) w) ∧ RM (accW (letw w a x b y e) (addTw w 3 a x b y (-1) e) w) (accW (letw w a x b y e) (addTm w m 3 a x b y (-1) e) m) := by
  sorry
theorem INV_sky {w m : Wd} {a x p q r e : Int} (hw : IX w ∧ RM w m) : IX (accW (skqw w a x p q r e) (addTw (skyw w p q r) 1 a x (-1) (-1) (-1) e) w) ∧ RM (accW (skqw w a x p q r e) (addTw (skyw w p q r) 1 a x (-1) (-1) (-1) e) w) (accW (skqw w a x p q r e) (skyM w m a x p q r e) m) := by
  sorry
theorem INV_ring {w m : Wd} {a x p e : Int} (hw : IX w ∧ RM w m) : IX (accW (rinw w a x p e) (addTw (up w 7 (w 5 3 * 3) p) 2 a x (-1) (-1) (-1) e) w) ∧ RM (accW (rinw w a x p e) (addTw (up w 7 (w 5 3 * 3) p) 2 a x (-1) (-1) (-1) e) w) (accW (rinw w a x p e) (rinM w m a x p e) m) := by
  sorry
theorem INV_undo {w m : Wd} (hw : IX w ∧ RM w m) : IX (accW (undw w) (undW w) w) ∧ RM (accW (undw w) (undW w) w) (accW (undw w) (up m 0 8 (w 5 3 - 1)) m) := by
  sorry
theorem INV_letters {w m : Wd} {z : Int} (hw : IX w ∧ RM w m) : IX (accW (lesw w z) (lesW w z) w) ∧ RM (accW (lesw w z) (lesW w z) w) (accW (lesw w z) (lesM w m z) m) := by
  sorry
theorem INV_blank {w m : Wd} (hw : IX w ∧ RM w m) : IX (up w 18 1 0) ∧ RM (up w 18 1 0) (up m 0 11 0) := by
  obtain ⟨⟨h1, h3, h5, h8, h0, h18, h11⟩, ⟨a1, a2, a3, a4, a5⟩, b, c1, d, e⟩ := hw
  exact ⟨⟨I1_c (w := w) rfl rfl rfl h1, I3_c (w := w) rfl rfl h3, I5_c (w := w) rfl rfl rfl rfl h5, I8_c (w := w) rfl rfl rfl h8, I0_c (w := w) rfl h0, ⟨⟨Int.le_refl 0, show (0 : Int) ≤ 60 by omega⟩, h18.2⟩, I11_c (w := w) rfl rfl rfl rfl rfl rfl h11⟩, ⟨a1, a2, rfl, a4, a5⟩, b, c1, d, e⟩
theorem INV_fault {w m u : Wd} (hw : IX w ∧ RM w m) (h : u = faw w) : IX u ∧ RM u (rdT w m) := by
  subst h
  obtain ⟨⟨h1, h3, h5, h8, h0, h18, h11⟩, ⟨a1, a2, a3, a4, a5⟩, b, c1, d, e⟩ := hw
  exact ⟨⟨I1_c (w := w) rfl rfl rfl h1, I3_c (w := w) rfl rfl h3, I5_c (w := w) rfl rfl rfl rfl h5, I8_c (w := w) rfl rfl rfl h8, I0_c (w := w) rfl h0, I18_c (w := w) rfl rfl h18, I11_c (w := w) rfl rfl rfl rfl rfl rfl h11⟩, ⟨a1, a2, a3, a4, a5⟩, b, c1, d, e⟩
theorem INV_text {w m u : Wd} {s : Int} (hw : IX w ∧ RM w m) (h : u = texW w s) : IX u ∧ RM u (texM w m s) := by
  sorry
theorem INV_strike_0 {w m : Wd} (hw : IX w ∧ RM w m) : IX (accW (strw w 0) (strW w 0) w) ∧ RM (accW (strw w 0) (strW w 0) w) (accW (strw w 0) (up m 11 0 (txn w 0 - 1)) m) := by
  sorry
theorem INV_strike_1 {w m : Wd} (hw : IX w ∧ RM w m) : IX (accW (strw w 1) (strW w 1) w) ∧ RM (accW (strw w 1) (strW w 1) w) (accW (strw w 1) (up m 11 1 (txn w 1 - 1)) m) := by
  sorry
theorem INV_strike_n {w m : Wd} {s : Int} (hw : IX w ∧ RM w m) (hs : ¬ (s = 0 ∨ s = 1)) : IX (accW (strw w s) (strW w s) w) ∧ RM (accW (strw w s) (strW w s) w) (accW (strw w s) (up m 11 s (txn w s - 1)) m) := by
  refine INV_a hw (fun h => ?_)
  unfold strw at h
  rw [if_neg hs] at h
  omega
theorem INV_wish {w m : Wd} {a x b y s : Int} (hw : IX w ∧ RM w m) : IX (accW (wisw w a x b y s) (addWw w 0 a x b y s 0) w) ∧ RM (accW (wisw w a x b y s) (addWw w 0 a x b y s 0) w) (accW (wisw w a x b y s) (addWm w m a x b y s) m) := by
  refine INV_a hw (fun h => ?_)
  unfold wisw at h
  by_cases c : pairw w a b
  · rw [if_pos c] at h
    by_cases c2 : (1 ≤ x ∧ x ≤ 99) ∧ (1 ≤ y ∧ y ≤ 99) ∧ (0 ≤ s ∧ s ≤ 20)
    · rw [if_pos c2] at h
      by_cases c3 : w 8 3 < 6
      · obtain ⟨⟨h1, h3, h5, h8, h0, h18, h11⟩, ⟨a1, a2, a3, a4, a5⟩, r, c1, d, e⟩ := hw
        unfold pairw at c
        have n10 := h1.1
        have n6 := h8.1.1
        have fU : ∀ q f : Int, 0 ≤ f → f < 7 → wfa (addWw w 0 a x b y s 0) q f = if q = w 8 3 ∧ f = 6 then 0 else if q = w 8 3 ∧ f = 5 then s else if q = w 8 3 ∧ f = 4 then y else if q = w 8 3 ∧ f = 3 then b else if q = w 8 3 ∧ f = 2 then x else if q = w 8 3 ∧ f = 1 then a else if q = w 8 3 ∧ f = 0 then 0 else wfa w q f := fun q f f0 f1 => by
          unfold addWw
          rw [cell_wfa (w := up (up (up (up (up (up (up w 9 (w 8 3 * 7 + 0) 0) 9 (w 8 3 * 7 + 1) a) 9 (w 8 3 * 7 + 2) x) 9 (w 8 3 * 7 + 3) b) 9 (w 8 3 * 7 + 4) y) 9 (w 8 3 * 7 + 5) s) 9 (w 8 3 * 7 + 6) 0) (up_cell (by decide))]
          rw [wfa_u (by omega) (by omega) ⟨f0, f1⟩, wfa_u (by omega) (by omega) ⟨f0, f1⟩, wfa_u (by omega) (by omega) ⟨f0, f1⟩, wfa_u (by omega) (by omega) ⟨f0, f1⟩, wfa_u (by omega) (by omega) ⟨f0, f1⟩, wfa_u (by omega) (by omega) ⟨f0, f1⟩, wfa_u (by omega) (by omega) ⟨f0, f1⟩]
        have fN : ∀ q f : Int, 0 ≤ f → f < 7 → ¬ q = w 8 3 → wfa (addWw w 0 a x b y s 0) q f = wfa w q f := fun q f f0 f1 hq => by
          rw [fU q f f0 f1, if_neg (fun z => hq z.1), if_neg (fun z => hq z.1), if_neg (fun z => hq z.1), if_neg (fun z => hq z.1), if_neg (fun z => hq z.1), if_neg (fun z => hq z.1), if_neg (fun z => hq z.1)]
        refine ⟨⟨I1_c (w := w) rfl rfl rfl h1, I3_c (w := w) rfl rfl h3, I5_c (w := w) rfl rfl rfl rfl h5, ⟨⟨⟨show 0 ≤ w 8 3 + 1 by omega, show w 8 3 + 1 ≤ 6 by omega⟩, h8.1.2⟩, ?_, fun t t0 t1 => ?_⟩, I0_c (w := w) rfl h0, I18_c (w := w) rfl rfl h18, I11_c (w := w) rfl rfl rfl rfl rfl rfl h11⟩, ⟨a1, a2, a3, ?_, a5⟩, r, c1, d, fun t => ?_⟩
        · exact up_R (p := w 8 3 * 7 + 6) (by omega) (up_R (p := w 8 3 * 7 + 5) (by omega) (up_R (p := w 8 3 * 7 + 4) (by omega) (up_R (p := w 8 3 * 7 + 3) (by omega) (up_R (p := w 8 3 * 7 + 2) (by omega) (up_R (p := w 8 3 * 7 + 1) (by omega) (up_R (p := w 8 3 * 7 + 0) (by omega) h8.2.1))))))
        · have t1 : t < w 8 3 + 1 := t1
          unfold wok
          by_cases e2 : t = w 8 3
          · rw [fU t 1 (by omega) (by omega), if_neg (by omega), if_neg (by omega), if_neg (by omega), if_neg (by omega), if_neg (by omega), if_pos ⟨e2, rfl⟩, fU t 3 (by omega) (by omega), if_neg (by omega), if_neg (by omega), if_neg (by omega), if_pos ⟨e2, rfl⟩, fU t 6 (by omega) (by omega), if_pos ⟨e2, rfl⟩]
            exact ⟨⟨c.1.1, c.1.2⟩, ⟨c.2.1.1, c.2.1.2⟩, c.2.2, rfl⟩
          · rw [fN t 1 (by omega) (by omega) e2, fN t 3 (by omega) (by omega) e2, fN t 6 (by omega) (by omega) e2]
            exact h8.2.2 t t0 (by omega)
        · show w 8 3 + 1 = w 8 3 + 1; rfl
        · obtain ⟨e1, e2, e3, e4, e5⟩ := e t
          unfold addWw addWm
          by_cases q : t = w 8 3
          · subst q
            refine ⟨?_, ?_, ?_, ?_, ?_⟩
            · rw [up_ne (by omega), up_ne (by omega), up_ne (by omega), up_ne (by omega), up_ne (by omega), up_self, up_ne (by omega), up_ne (by omega), up_ne (by omega), up_ne (by omega), up_ne (by omega), up_ne (by omega), up_self]
            · rw [up_ne (by omega), up_ne (by omega), up_ne (by omega), up_ne (by omega), up_self, up_ne (by omega), up_ne (by omega), up_ne (by omega), up_ne (by omega), up_ne (by omega), up_self]
            · rw [up_ne (by omega), up_ne (by omega), up_ne (by omega), up_self, up_ne (by omega), up_ne (by omega), up_ne (by omega), up_ne (by omega), up_self]
            · rw [up_ne (by omega), up_ne (by omega), up_self, up_ne (by omega), up_ne (by omega), up_ne (by omega), up_self]
            · rw [up_ne (by omega), up_self, up_ne (by omega), up_ne (by omega), up_self]
          · refine ⟨?_, ?_, ?_, ?_, ?_⟩
            · rw [up_ne (by omega), up_ne (by omega), up_ne (by omega), up_ne (by omega), up_ne (by omega), up_ne (by omega), up_ne (by omega), up_ne (by omega), up_ne (by omega), up_ne (by omega), up_ne (by omega), up_ne (by omega), up_ne (by omega), up_ne (by omega)]; exact e1
            · rw [up_ne (by omega), up_ne (by omega), up_ne (by omega), up_ne (by omega), up_ne (by omega), up_ne (by omega), up_ne (by omega), up_ne (by omega), up_ne (by omega), up_ne (by omega), up_ne (by omega), up_ne (by omega), up_ne (by omega), up_ne (by omega)]; exact e2
            · rw [up_ne (by omega), up_ne (by omega), up_ne (by omega), up_ne (by omega), up_ne (by omega), up_ne (by omega), up_ne (by omega), up_ne (by omega), up_ne (by omega), up_ne (by omega), up_ne (by omega), up_ne (by omega), up_ne (by omega), up_ne (by omega)]; exact e3
            · rw [up_ne (by omega), up_ne (by omega), up_ne (by omega), up_ne (by omega), up_ne (by omega), up_ne (by omega), up_ne (by omega), up_ne (by omega), up_ne (by omega), up_ne (by omega), up_ne (by omega), up_ne (by omega), up_ne (by omega), up_ne (by omega)]; exact e4
            · rw [up_ne (by omega), up_ne (by omega), up_ne (by omega), up_ne (by omega), up_ne (by omega), up_ne (by omega), up_ne (by omega), up_ne (by omega), up_ne (by omega), up_ne (by omega), up_ne (by omega), up_ne (by omega), up_ne (by omega), up_ne (by omega)]; exact e5
      · rw [if_neg c3] at h; omega
    · rw [if_neg c2] at h; omega
  · rw [if_neg c] at h; omega
theorem INV_tell {w m : Wd} {r y : Int} (hw : IX w ∧ RM w m) : IX (telW w r y) ∧ RM (telW w r y) (telM w m r y) := by
  unfold telW telM
  by_cases c : (0 ≤ r ∧ r < w 1 3) ∧ -2000 ≤ y ∧ y ≤ 2000
  · rw [if_pos c, if_pos c]
    obtain ⟨⟨h1, h3, h5, h8, h0, h18, h11⟩, a, b, ⟨c1, c2, c3, c4⟩, d, e⟩ := hw
    refine ⟨⟨I1_c (w := w) rfl rfl rfl h1, ⟨up_R (by omega) h3.1, fun q hq => ?_⟩, I5_c (w := w) rfl rfl rfl rfl h5, I8_c (w := w) rfl rfl rfl h8, I0_c (w := w) rfl h0, I18_c (w := w) rfl rfl h18, I11_c (w := w) rfl rfl rfl rfl rfl rfl h11⟩, a, b, ⟨up_pair c1 rfl, c2, c3, c4⟩, d, e⟩
    have hq : w 1 3 ≤ q := hq
    rw [up_ne (by omega)]
    exact h3.2 q hq
  · rw [if_neg c, if_neg c]; exact hw
theorem INV_doubt {w m u v : Wd} {s e wh : Int} (hw : IX w ∧ RM w m) (h : sq (dbqW w s e wh) u) (g : sm (dbM w m s e wh) v) : IX u ∧ RM u v := by
  have key : IX (dbqW w s e wh) ∧ RM (dbqW w s e wh) (dbM w m s e wh) := by
    unfold dbqW dbM
    by_cases c : refq s e = 0 ∧ (0 ≤ wh ∧ wh ≤ 1) ∧ w 0 8 < 10
    · rw [if_pos c, if_pos c]
      obtain ⟨⟨h1, h3, h5, h8, h0, h18, h11⟩, r⟩ := hw
      unfold I0 at h0
      exact ⟨⟨I1_c (w := w) rfl rfl rfl h1, I3_c (w := w) rfl rfl h3, I5_c (w := w) rfl rfl rfl rfl h5, I8_c (w := w) rfl rfl rfl h8, ⟨show 0 ≤ w 0 8 + 1 by omega, show w 0 8 + 1 ≤ 10 by omega⟩, I18_c (w := w) rfl rfl h18, I11_c (w := w) rfl rfl rfl rfl rfl rfl h11⟩, RM_18 r _⟩
    · rw [if_neg c, if_neg c]; exact hw
  exact INV_q key h g

