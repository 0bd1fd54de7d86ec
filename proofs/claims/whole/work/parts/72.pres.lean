theorem I1_q4 {w : Wd} (h : I1 w) : 0 ≤ w 1 4 ∧ w 1 4 ≤ 10 := by
  have a := (cnq_R (fun r => isMis (fa w r 1)) (w 1 3).toNat).1
  have b := h.2.1
  unfold mra at b
  omega
theorem I1_q5 {w : Wd} (h : I1 w) : ∀ j : Int, 0 ≤ j → j < 5 → -1 ≤ w 4 j ∧ w 4 j < w 1 3 := fun j a b => by
  have c := h.2.2.1 j a b
  have d := lsr_R w j (w 1 3).toNat
  have e := h.1
  omega
theorem I5_q4 {w : Wd} (h : I5 w) : 0 ≤ w 5 4 ∧ w 5 4 ≤ 2 := by
  have a := (cnq_R (fun t => tfa w t 0 = 1) (w 5 3).toNat).1
  have b := h.2.1
  unfold ska at b
  omega
theorem I5_q1 {w : Wd} (h : IX w) : ∀ t : Int, 0 ≤ t → t < w 5 3 → 0 ≤ tfa w t 1 ∧ tfa w t 1 < 10 := fun t a b => by
  have c := (h.2.2.1.2.2.2.2 t a b).1
  have d := h.1.1
  omega
theorem I8_q6 {w : Wd} (h : I8 w) : ∀ t : Int, 0 ≤ t → t < w 8 3 → wfa w t 6 = 0 := fun t a b => (h.2.2 t a b).2.2.2
theorem I18_pg {w : Wd} (h : I18 w) (i : Int) : -128 ≤ pgl w i ∧ pgl w i ≤ 127 := by
  have := I18_p h i
  omega
theorem INV_a {w m a b : Wd} {r : Int} (hw : IX w ∧ RM w m) (h : 0 ≤ r → IX a ∧ RM a b) : IX (accW r a w) ∧ RM (accW r a w) (accW r b m) := by
  unfold accW
  by_cases q : 0 ≤ r
  · rw [if_pos q, if_pos q]; exact h q
  · rw [if_neg q, if_neg q]; exact hw
theorem INV_reign {w m : Wd} {l k n o e : Int} (hw : IX w ∧ RM w m) : IX (accW (reiw w l k n o e) (addRw w l k n o e) w) ∧ RM (accW (reiw w l k n o e) (addRw w l k n o e) w) (accW (reiw w l k n o e) (addRm w m l k n o e) m) := by
  sorry
theorem INV_number {w m : Wd} {r n : Int} (hw : IX w ∧ RM w m) : IX (accW (numw w r n) (up w 2 (r * 6 + 2) n) w) ∧ RM (accW (numw w r n) (up w 2 (r * 6 + 2) n) w) (accW (numw w r n) (up m 3 r n) m) := by
  sorry
theorem INV_tie {w m : Wd} {a x b y s e : Int} (hw : IX w ∧ RM w m) : IX (accW (tiew w a x b y s e) (addTw w 0 a x b y s e) w) ∧ RM (accW (tiew w a x b y s e) (addTw w 0 a x b y s e) w) (accW (tiew w a x b y s e) (addTm w m 0 a x b y s e) m) := by
  sorry
theorem INV_letter {w m : Wd} {a x b y e : Int} (hw : IX w ∧ RM w m) : IX (accW (letw w a x b y e) (addTw w 3 a x b y (-1) e) w) ∧ RM (accW (letw w a x b y e) (addTw w 3 a x b y (-1) e) w) (accW (letw w a x b y e) (addTm w m 3 a x b y (-1) e) m) := by
  sorry
theorem INV_sky {w m : Wd} {a x p q r e : Int} (hw : IX w ∧ RM w m) : IX (accW (skqw w a x p q r e) (addTw (skyw w p q r) 1 a x (-1) (-1) (-1) e) w) ∧ RM (accW (skqw w a x p q r e) (addTw (skyw w p q r) 1 a x (-1) (-1) (-1) e) w) (accW (skqw w a x p q r e) (skyM w m a x p q r e) m) := by
  sorry
theorem INV_ring {w m : Wd} {a x p e : Int} (hw : IX w ∧ RM w m) : IX (accW (rinw w a x p e) (addTw (up w 7 (w 5 3 * 3) p) 2 a x (-1) (-1) (-1) e) w) ∧ RM (accW (rinw w a x p e) (addTw (up w 7 (w 5 3 * 3) p) 2 a x (-1) (-1) (-1) e) w) (accW (rinw w a x p e) (rinM w m a x p e) m) := by
  sorry
theorem INV_undo {w m : Wd} (hw : IX w ∧ RM w m) : IX (accW (undw w) (undW w) w) ∧ RM (accW (undw w) (undW w) w) (accW (undw w) (up m 0 8 (w 5 3 - 1)) m) := by
  sorry
theorem INV_letters {w m : Wd} {z : Int} (hw : IX w ∧ RM w m) : IX (accW (lesw w z) (lesW w z) w) ∧ RM (accW (lesw w z) (lesW w z) w) (accW (lesw w z) (lesM w m z) m) := by
  sorry
theorem INV_blank {w m : Wd} (hw : IX w ∧ RM w m) : IX (up w 18 1 0) ∧ RM (up w 18 1 0) (up m 0 11 0) := by
  sorry
theorem INV_fault {w m u : Wd} (hw : IX w ∧ RM w m) (h : u = faw w) : IX u ∧ RM u (rdT w m) := by
  sorry
theorem INV_text {w m u : Wd} {s : Int} (hw : IX w ∧ RM w m) (h : u = texW w s) : IX u ∧ RM u (texM w m s) := by
  sorry
theorem INV_strike_0 {w m : Wd} (hw : IX w ∧ RM w m) : IX (accW (strw w 0) (strW w 0) w) ∧ RM (accW (strw w 0) (strW w 0) w) (accW (strw w 0) (up m 11 0 (txn w 0 - 1)) m) := by
  sorry
theorem INV_strike_1 {w m : Wd} (hw : IX w ∧ RM w m) : IX (accW (strw w 1) (strW w 1) w) ∧ RM (accW (strw w 1) (strW w 1) w) (accW (strw w 1) (up m 11 1 (txn w 1 - 1)) m) := by
  sorry
theorem INV_strike_n {w m : Wd} {s : Int} (hw : IX w ∧ RM w m) (hs : ¬ (s = 0 ∨ s = 1)) : IX (accW (strw w s) (strW w s) w) ∧ RM (accW (strw w s) (strW w s) w) (accW (strw w s) (up m 11 s (txn w s - 1)) m) := by
  refine INV_a hw (fun h => ?_)
  unfold strw at h
  rw [if_neg hs] at h
  omega
theorem INV_wish {w m : Wd} {a x b y s : Int} (hw : IX w ∧ RM w m) : IX (accW (wisw w a x b y s) (addWw w 0 a x b y s 0) w) ∧ RM (accW (wisw w a x b y s) (addWw w 0 a x b y s 0) w) (accW (wisw w a x b y s) (addWm w m a x b y s) m) := by
  sorry
theorem INV_tell {w m : Wd} {r y : Int} (hw : IX w ∧ RM w m) : IX (telW w r y) ∧ RM (telW w r y) (telM w m r y) := by
  sorry
theorem INV_doubt {w m u v : Wd} {s e wh : Int} (hw : IX w ∧ RM w m) (h : sq (dbqW w s e wh) u) (g : sm (dbM w m s e wh) v) : IX u ∧ RM u v := by
  sorry

