theorem I1_q4 {w : Wd} (h : I1 w) : 0 ≤ w 1 4 ∧ w 1 4 ≤ 10 := by
  have a := (cnq_R (fun r => isMis (fa w r 1)) (w 1 3).toNat).1
  have b := h.2.1
  unfold mra at b
  omega
theorem I1_q5 {w : Wd} (h : I1 w) : ∀ j : Int, 0 ≤ j → j < 5 → -1 ≤ w 4 j ∧ w 4 j < w 1 3 := fun j a b => by
  have c := h.2.2.1 j a b
  have d := lsr_R w j (w 1 3).toNat
  have e := h.1
  omega
theorem I5_q4 {w : Wd} (h : I5 w) : 0 ≤ w 5 4 ∧ w 5 4 ≤ 2 := by
  have a := (cnq_R (fun t => tfa w t 0 = 1) (w 5 3).toNat).1
  have b := h.2.1
  unfold ska at b
  omega
theorem I5_q1 {w : Wd} (h : IX w) : ∀ t : Int, 0 ≤ t → t < w 5 3 → 0 ≤ tfa w t 1 ∧ tfa w t 1 < 10 := fun t a b => by
  have c := (h.2.2.1.2.2.2.2 t a b).1
  have d := h.1.1
  omega
theorem I8_q6 {w : Wd} (h : I8 w) : ∀ t : Int, 0 ≤ t → t < w 8 3 → wfa w t 6 = 0 := fun t a b => (h.2.2 t a b).2.2.2
theorem I18_pg {w : Wd} (h : I18 w) (i : Int) : -128 ≤ pgl w i ∧ pgl w i ≤ 127 := by
  have := I18_p h i
  omega
theorem up_pair {m w : Wd} {km kw : Nat} {i j v : Int} (h : m km = w kw) (e : i = j) : up m km i v km = up w kw j v kw := by
  funext x
  unfold up
  rw [h, e]
  by_cases q : x = j
  · rw [if_pos ⟨rfl, q⟩, if_pos ⟨rfl, q⟩]
  · rw [if_neg (fun z => q z.2), if_neg (fun z => q z.2)]
theorem up_R {w : Wd} {k : Nat} {p v lo hi N : Int} (hv : lo ≤ v ∧ v ≤ hi) (h : ∀ i : Int, 0 ≤ i → i < N → lo ≤ w k i ∧ w k i ≤ hi) : ∀ i : Int, 0 ≤ i → i < N → lo ≤ up w k p v k i ∧ up w k p v k i ≤ hi := by
  intro i i0 i1
  unfold up
  by_cases q : i = p
  · rw [if_pos ⟨rfl, q⟩]; exact hv
  · rw [if_neg (fun z => q z.2)]; exact h i i0 i1
theorem up_m6 {w : Wd} {k : Nat} {r g v q f : Int} (g0 : 0 ≤ g ∧ g < 6) (f0 : 0 ≤ f ∧ f < 6) : up w k (r * 6 + g) v k (q * 6 + f) = if q = r ∧ f = g then v else w k (q * 6 + f) := by
  unfold up
  by_cases e : q = r ∧ f = g
  · rw [if_pos e, if_pos ⟨rfl, by rw [e.1, e.2]⟩]
  · rw [if_neg e, if_neg (fun z => e (by omega))]
theorem up_m7 {w : Wd} {k : Nat} {r g v q f : Int} (g0 : 0 ≤ g ∧ g < 7) (f0 : 0 ≤ f ∧ f < 7) : up w k (r * 7 + g) v k (q * 7 + f) = if q = r ∧ f = g then v else w k (q * 7 + f) := by
  unfold up
  by_cases e : q = r ∧ f = g
  · rw [if_pos e, if_pos ⟨rfl, by rw [e.1, e.2]⟩]
  · rw [if_neg e, if_neg (fun z => e (by omega))]
theorem cnq_cg {P Q : Int → Prop} : ∀ n : Nat, (∀ r : Int, 0 ≤ r → r < n → (P r ↔ Q r)) → cnq P n = cnq Q n
  | 0, _ => rfl
  | n + 1, h => by
    rw [cnq, cnq, cnq_cg n (fun r a b => h r a (by omega))]
    have := h (n : Nat) (by omega) (by omega)
    by_cases q : P (n : Nat)
    · rw [if_pos q, if_pos (this.mp q)]
    · rw [if_neg q, if_neg (fun z => q (this.mpr z))]
theorem lsr_cg {w u : Wd} (l : Int) : ∀ n : Nat, (∀ q : Int, 0 ≤ q → q < n → fa u q 0 = fa w q 0) → lsr u l n = lsr w l n
  | 0, _ => rfl
  | n + 1, h => by rw [lsr, lsr, lsr_cg l n (fun q a b => h q a (by omega)), h (n : Nat) (by omega) (by omega)]
theorem fa_u {w : Wd} {r g v q f : Int} (r0 : 0 ≤ r ∧ r < 10) (g0 : 0 ≤ g ∧ g < 6) (f0 : 0 ≤ f ∧ f < 6) : fa (up w 2 (r * 6 + g) v) q f = if q = r ∧ f = g then v else fa w q f := by
  by_cases h : 0 ≤ q * 6 + f ∧ q * 6 + f < 60
  · unfold fa
    rw [rd_in h.1 h.2, rd_in h.1 h.2, up_m6 g0 f0]
  · unfold fa
    rw [rd_out h, rd_out h, if_neg (by omega)]
theorem tfa_u {w : Wd} {r g v q f : Int} (r0 : 0 ≤ r ∧ r < 8) (g0 : 0 ≤ g ∧ g < 7) (f0 : 0 ≤ f ∧ f < 7) : tfa (up w 6 (r * 7 + g) v) q f = if q = r ∧ f = g then v else tfa w q f := by
  by_cases h : 0 ≤ q * 7 + f ∧ q * 7 + f < 56
  · unfold tfa
    rw [rd_in h.1 h.2, rd_in h.1 h.2, up_m7 g0 f0]
  · unfold tfa
    rw [rd_out h, rd_out h, if_neg (by omega)]
theorem wfa_u {w : Wd} {r g v q f : Int} (r0 : 0 ≤ r ∧ r < 6) (g0 : 0 ≤ g ∧ g < 7) (f0 : 0 ≤ f ∧ f < 7) : wfa (up w 9 (r * 7 + g) v) q f = if q = r ∧ f = g then v else wfa w q f := by
  by_cases h : 0 ≤ q * 7 + f ∧ q * 7 + f < 42
  · unfold wfa
    rw [rd_in h.1 h.2, rd_in h.1 h.2, up_m7 g0 f0]
  · unfold wfa
    rw [rd_out h, rd_out h, if_neg (by omega)]
theorem INV_a {w m a b : Wd} {r : Int} (hw : IX w ∧ RM w m) (h : 0 ≤ r → IX a ∧ RM a b) : IX (accW r a w) ∧ RM (accW r a w) (accW r b m) := by
  unfold accW
  by_cases q : 0 ≤ r
  · rw [if_pos q, if_pos q]; exact h q
  · rw [if_neg q, if_neg q]; exact hw
theorem addT_m {w m : Wd} {s a x b y l e : Int} (h : m 8 = w 6) (w' : Wd) (h6 : w' 6 = w 6) (h53 : w' 5 3 = w 5 3) : (addTm w m s a x b y l e) 8 = (addTw w' s a x b y l e) 6 := by
  unfold addTm addTw
  rw [up_cell (by decide : (8 : Nat) ≠ 0), up_cell (by decide : (6 : Nat) ≠ 5), h53]
  exact up_pair (up_pair (up_pair (up_pair (up_pair (up_pair (up_pair (h.trans h6.symm) (by omega)) (by omega)) (by omega)) (by omega)) (by omega)) (by omega)) (by omega)
theorem IX_addT {w : Wd} {s a x b y l e : Int} (h1 : I1 w) (h3 : I3 w) (n0 : 0 ≤ w 5 3 ∧ w 5 3 < 8) (h2 : w 5 2 = 8) (hs : w 5 4 = ska w (w 5 3) + (if s = 1 then 1 else 0)) (hs2 : w 5 4 ≤ 2) (h6 : ∀ i : Int, 0 ≤ i → i < 56 → -1 ≤ w 6 i ∧ w 6 i ≤ 99) (h7 : ∀ i : Int, 0 ≤ i → i < 24 → -2000 ≤ w 7 i ∧ w 7 i ≤ 2000) (ht : ∀ t : Int, 0 ≤ t → t < w 5 3 → tok w t) (h8 : I8 w) (h0 : I0 w) (h18 : I18 w) (h11 : I11 w)
    (rs : 0 ≤ s ∧ s ≤ 3) (ra : -1 ≤ a ∧ a ≤ 99) (rx : -1 ≤ x ∧ x ≤ 99) (rb : -1 ≤ b ∧ b ≤ 99) (ry : -1 ≤ y ∧ y ≤ 99) (rl : -1 ≤ l ∧ l ≤ 99) (re : -1 ≤ e ∧ e ≤ 99) (hk : (0 ≤ a ∧ a < w 1 3) ∧ (((s = 0 ∨ s = 3) ∧ (0 ≤ b ∧ b < w 1 3) ∧ ¬ a = b) ∨ ((s = 1 ∨ s = 2) ∧ b = -1))) : IX (addTw w s a x b y l e) := by
  have fU : ∀ q f : Int, 0 ≤ f → f < 7 → tfa (addTw w s a x b y l e) q f = if q = w 5 3 ∧ f = 6 then e else if q = w 5 3 ∧ f = 5 then l else if q = w 5 3 ∧ f = 4 then y else if q = w 5 3 ∧ f = 3 then b else if q = w 5 3 ∧ f = 2 then x else if q = w 5 3 ∧ f = 1 then a else if q = w 5 3 ∧ f = 0 then s else tfa w q f := fun q f f0 f1 => by
    unfold addTw
    rw [cell_tfa (w := up (up (up (up (up (up (up w 6 (w 5 3 * 7 + 0) s) 6 (w 5 3 * 7 + 1) a) 6 (w 5 3 * 7 + 2) x) 6 (w 5 3 * 7 + 3) b) 6 (w 5 3 * 7 + 4) y) 6 (w 5 3 * 7 + 5) l) 6 (w 5 3 * 7 + 6) e) (up_cell (by decide))]
    rw [tfa_u (by omega) (by omega) ⟨f0, f1⟩, tfa_u (by omega) (by omega) ⟨f0, f1⟩, tfa_u (by omega) (by omega) ⟨f0, f1⟩, tfa_u (by omega) (by omega) ⟨f0, f1⟩, tfa_u (by omega) (by omega) ⟨f0, f1⟩, tfa_u (by omega) (by omega) ⟨f0, f1⟩, tfa_u (by omega) (by omega) ⟨f0, f1⟩]
  have fN : ∀ q f : Int, 0 ≤ f → f < 7 → ¬ q = w 5 3 → tfa (addTw w s a x b y l e) q f = tfa w q f := fun q f f0 f1 hq => by
    rw [fU q f f0 f1, if_neg (fun z => hq z.1), if_neg (fun z => hq z.1), if_neg (fun z => hq z.1), if_neg (fun z => hq z.1), if_neg (fun z => hq z.1), if_neg (fun z => hq z.1), if_neg (fun z => hq z.1)]
  have e2 : w 5 3 = w 5 3 := rfl
  have f0 : tfa (addTw w s a x b y l e) (w 5 3) 0 = s := by rw [fU _ 0 (by omega) (by omega), if_neg (by omega), if_neg (by omega), if_neg (by omega), if_neg (by omega), if_neg (by omega), if_neg (by omega), if_pos ⟨e2, rfl⟩]
  have sk : ska (addTw w s a x b y l e) (w 5 3 + 1) = w 5 4 := by
    have c : cnq (fun t => tfa (addTw w s a x b y l e) t 0 = 1) (w 5 3).toNat = cnq (fun t => tfa w t 0 = 1) (w 5 3).toNat := cnq_cg _ (fun r r0 r1 => by rw [fN r 0 (by omega) (by omega) (by omega)])
    unfold ska at hs ⊢
    rw [hs]
    by_cases q : s = 1
    · rw [cnq_y (P := fun t => tfa (addTw w s a x b y l e) t 0 = 1) n0.1 (f0.trans q), c, if_pos q]
    · rw [cnq_n (P := fun t => tfa (addTw w s a x b y l e) t 0 = 1) n0.1 (fun z => q (f0.symm.trans z)), c, if_neg q]; omega
  refine ⟨I1_c (w := w) rfl rfl rfl h1, I3_c (w := w) rfl rfl h3, ⟨⟨⟨show 0 ≤ w 5 3 + 1 by omega, show w 5 3 + 1 ≤ 8 by omega⟩, h2⟩, ⟨sk.symm, hs2⟩, ?_, h7, fun t t0 t1 => ?_⟩, I8_c (w := w) rfl rfl rfl h8, I0_c (w := w) rfl h0, I18_c (w := w) rfl rfl h18, I11_c (w := w) rfl rfl rfl rfl rfl rfl h11⟩
  · exact up_R (p := w 5 3 * 7 + 6) (by omega) (up_R (p := w 5 3 * 7 + 5) (by omega) (up_R (p := w 5 3 * 7 + 4) (by omega) (up_R (p := w 5 3 * 7 + 3) (by omega) (up_R (p := w 5 3 * 7 + 2) (by omega) (up_R (p := w 5 3 * 7 + 1) (by omega) (up_R (p := w 5 3 * 7 + 0) (by omega) h6))))))
  · have t1 : t < w 5 3 + 1 := t1
    unfold tok
    by_cases e2 : t = w 5 3
    · rw [fU t 0 (by omega) (by omega), if_neg (by omega), if_neg (by omega), if_neg (by omega), if_neg (by omega), if_neg (by omega), if_neg (by omega), if_pos ⟨e2, rfl⟩, fU t 1 (by omega) (by omega), if_neg (by omega), if_neg (by omega), if_neg (by omega), if_neg (by omega), if_neg (by omega), if_pos ⟨e2, rfl⟩, fU t 3 (by omega) (by omega), if_neg (by omega), if_neg (by omega), if_neg (by omega), if_pos ⟨e2, rfl⟩]
      exact hk
    · rw [fN t 0 (by omega) (by omega) e2, fN t 1 (by omega) (by omega) e2, fN t 3 (by omega) (by omega) e2]
      exact ht t t0 (by omega)
theorem RM_addT {w m : Wd} {s a x b y l e : Int} (h : RM w m) : RM (addTw w s a x b y l e) (addTm w m s a x b y l e) := by
  obtain ⟨⟨a1, a2, a3, a4, a5⟩, r, ⟨c1, c2, c3, c4⟩, d, f⟩ := h
  exact ⟨⟨a1, rfl, a3, a4, a5⟩, r, ⟨c1, addT_m c2 w rfl rfl, c3, c4⟩, d, f⟩
theorem INV_reign {w m : Wd} {l k n o e : Int} (hw : IX w ∧ RM w m) : IX (accW (reiw w l k n o e) (addRw w l k n o e) w) ∧ RM (accW (reiw w l k n o e) (addRw w l k n o e) w) (accW (reiw w l k n o e) (addRm w m l k n o e) m) := by
  refine INV_a hw (fun h => ?_)
  unfold reiw at h
  by_cases cA : (0 ≤ l ∧ l ≤ 4) ∧ (0 ≤ k ∧ k ≤ 6) ∧ (0 ≤ e ∧ e ≤ 9) ∧ (1 ≤ n ∧ n ≤ 60) ∧ (0 ≤ o ∧ (k = 1 → o ≤ n) ∧ o ≤ 60)
  · rw [if_pos cA] at h
    by_cases cB : ¬ w 4 l = -1 ∧ ¬ knw w (w 4 l) e
    · rw [if_pos cB] at h; omega
    · rw [if_neg cB] at h
      by_cases cC : k = 1 ∧ w 4 l = -1
      · rw [if_pos cC] at h; omega
      · rw [if_neg cC] at h
        by_cases cD : w 1 3 < 10 ∧ ¬ (isMis k ∧ 3 ≤ w 1 4)
        · obtain ⟨⟨h1, h3, h5, h8, h0, h18, h11⟩, ⟨a1, a2, a3, a4, a5⟩, b, ⟨c3, c4, c5, c6⟩, d, g⟩ := hw
          have n10 := h1.1
          have wl := I1_q5 h1 l cA.1.1 (by omega)
          have e2 : w 1 3 = w 1 3 := rfl
          have fU : ∀ q f : Int, 0 ≤ f → f < 6 → fa (addRw w l k n o e) q f = if q = w 1 3 ∧ f = 5 then (w 4 l) else if q = w 1 3 ∧ f = 4 then e else if q = w 1 3 ∧ f = 3 then o else if q = w 1 3 ∧ f = 2 then n else if q = w 1 3 ∧ f = 1 then k else if q = w 1 3 ∧ f = 0 then l else fa w q f := fun q f f0 f1 => by
            unfold addRw
            rw [cell_fa (w := up (up (up (up (up (up w 2 (w 1 3 * 6 + 0) l) 2 (w 1 3 * 6 + 1) k) 2 (w 1 3 * 6 + 2) n) 2 (w 1 3 * 6 + 3) o) 2 (w 1 3 * 6 + 4) e) 2 (w 1 3 * 6 + 5) (w 4 l)) (by rw [up_cell (by decide), up_cell (by decide), up_cell (by decide), up_cell (by decide)])]
            rw [fa_u (by omega) (by omega) ⟨f0, f1⟩, fa_u (by omega) (by omega) ⟨f0, f1⟩, fa_u (by omega) (by omega) ⟨f0, f1⟩, fa_u (by omega) (by omega) ⟨f0, f1⟩, fa_u (by omega) (by omega) ⟨f0, f1⟩, fa_u (by omega) (by omega) ⟨f0, f1⟩]
          have fN : ∀ q f : Int, 0 ≤ f → f < 6 → ¬ q = w 1 3 → fa (addRw w l k n o e) q f = fa w q f := fun q f f0 f1 hq => by
            rw [fU q f f0 f1, if_neg (fun z => hq z.1), if_neg (fun z => hq z.1), if_neg (fun z => hq z.1), if_neg (fun z => hq z.1), if_neg (fun z => hq z.1), if_neg (fun z => hq z.1)]
          have F0 : fa (addRw w l k n o e) (w 1 3) 0 = l := by rw [fU _ 0 (by omega) (by omega), if_neg (by omega), if_neg (by omega), if_neg (by omega), if_neg (by omega), if_neg (by omega), if_pos ⟨e2, rfl⟩]
          have F1 : fa (addRw w l k n o e) (w 1 3) 1 = k := by rw [fU _ 1 (by omega) (by omega), if_neg (by omega), if_neg (by omega), if_neg (by omega), if_neg (by omega), if_pos ⟨e2, rfl⟩]
          have F2 : fa (addRw w l k n o e) (w 1 3) 2 = n := by rw [fU _ 2 (by omega) (by omega), if_neg (by omega), if_neg (by omega), if_neg (by omega), if_pos ⟨e2, rfl⟩]
          have F3 : fa (addRw w l k n o e) (w 1 3) 3 = o := by rw [fU _ 3 (by omega) (by omega), if_neg (by omega), if_neg (by omega), if_pos ⟨e2, rfl⟩]
          have F4 : fa (addRw w l k n o e) (w 1 3) 4 = e := by rw [fU _ 4 (by omega) (by omega), if_neg (by omega), if_pos ⟨e2, rfl⟩]
          have F5 : fa (addRw w l k n o e) (w 1 3) 5 = w 4 l := by rw [fU _ 5 (by omega) (by omega), if_pos ⟨e2, rfl⟩]
          have gU : ∀ q f : Int, 0 ≤ f → f < 6 → addRw w l k n o e 2 (q * 6 + f) = if q = w 1 3 ∧ f = 5 then (w 4 l) else if q = w 1 3 ∧ f = 4 then e else if q = w 1 3 ∧ f = 3 then o else if q = w 1 3 ∧ f = 2 then n else if q = w 1 3 ∧ f = 1 then k else if q = w 1 3 ∧ f = 0 then l else w 2 (q * 6 + f) := fun q f f0 f1 => by
            unfold addRw
            rw [up_cell (by decide), up_cell (by decide), up_cell (by decide), up_cell (by decide)]
            rw [up_m6 (by omega) ⟨f0, f1⟩, up_m6 (by omega) ⟨f0, f1⟩, up_m6 (by omega) ⟨f0, f1⟩, up_m6 (by omega) ⟨f0, f1⟩, up_m6 (by omega) ⟨f0, f1⟩, up_m6 (by omega) ⟨f0, f1⟩]
          have gN : ∀ q f : Int, 0 ≤ f → f < 6 → ¬ q = w 1 3 → addRw w l k n o e 2 (q * 6 + f) = w 2 (q * 6 + f) := fun q f f0 f1 hq => by
            rw [gU q f f0 f1, if_neg (fun z => hq z.1), if_neg (fun z => hq z.1), if_neg (fun z => hq z.1), if_neg (fun z => hq z.1), if_neg (fun z => hq z.1), if_neg (fun z => hq z.1)]
          have lS : ∀ (j : Int) (p : Nat), (p : Int) ≤ w 1 3 → lsr (addRw w l k n o e) j p = lsr w j p := fun j p hp => lsr_cg j p (fun q q0 q1 => fN q 0 (by omega) (by omega) (by omega))
          have u13 : (addRw w l k n o e) 1 3 = w 1 3 + 1 := by unfold addRw; rw [up_self]
          have u14 : (addRw w l k n o e) 1 4 = w 1 4 + bi (isMis k) := by unfold addRw; rw [up_ne (by omega), up_self]
          have u4 : ∀ j : Int, (addRw w l k n o e) 4 j = if j = l then w 1 3 else w 4 j := fun j => by
            unfold addRw
            rw [up_cell (by decide), up_cell (by decide)]
            by_cases q : j = l
            · rw [q, up_self, if_pos rfl]
            · rw [up_ne (fun z => q z.2), if_neg q, up_cell (by decide), up_cell (by decide), up_cell (by decide), up_cell (by decide), up_cell (by decide), up_cell (by decide), up_cell (by decide)]
          have u3 : (addRw w l k n o e) 3 = w 3 := by
            unfold addRw
            rw [up_cell (by decide), up_cell (by decide), up_cell (by decide)]
            funext i
            by_cases q : i = w 1 3
            · rw [q, up_self, h3.2 _ (Int.le_refl _)]
            · rw [up_ne (fun z => q z.2), up_cell (by decide), up_cell (by decide), up_cell (by decide), up_cell (by decide), up_cell (by decide), up_cell (by decide)]
          have cX : ∀ j : Nat, 4 < j ∨ j = 0 → (addRw w l k n o e) j = w j := fun j hj => by
            unfold addRw
            rw [up_cell (by omega), up_cell (by omega), up_cell (by omega), up_cell (by omega), up_cell (by omega), up_cell (by omega), up_cell (by omega), up_cell (by omega), up_cell (by omega), up_cell (by omega)]
          have mS : mra (addRw w l k n o e) (w 1 3 + 1) = w 1 4 + bi (isMis k) := by
            have c : cnq (fun r => isMis (fa (addRw w l k n o e) r 1)) (w 1 3).toNat = cnq (fun r => isMis (fa w r 1)) (w 1 3).toNat := cnq_cg _ (fun r r0 r1 => by rw [fN r 1 (by omega) (by omega) (by omega)])
            have k1 := h1.2.1.1
            unfold mra at k1 ⊢
            by_cases q : isMis k
            · rw [cnq_y (P := fun r => isMis (fa (addRw w l k n o e) r 1)) n10.1 (by rw [F1]; exact q), c, bi_t q, ← k1]
            · rw [cnq_n (P := fun r => isMis (fa (addRw w l k n o e) r 1)) n10.1 (by rw [F1]; exact q), c, bi_f q, ← k1]; omega
          have m3 : w 1 4 + bi (isMis k) ≤ 3 := by
            have := h1.2.1.2
            by_cases q : isMis k
            · rw [bi_t q]; have : ¬ 3 ≤ w 1 4 := fun z => cD.2 ⟨q, z⟩; omega
            · rw [bi_f q]; omega
          have l4 : ∀ j : Int, 0 ≤ j → j < 5 → w 4 j = lsr w j (w 1 3).toNat := h1.2.2.1
          refine ⟨⟨⟨by rw [u13]; omega, by rw [u13, u14, mS]; exact ⟨rfl, m3⟩, fun j j0 j1 => ?_, fun r r0 r1 => ?_⟩, ⟨by rw [u3]; exact h3.1, fun r r1 => ?_⟩, ⟨by rw [cX 5 (by omega)]; exact h5.1, ?_, by rw [cX 6 (by omega)]; exact h5.2.2.1, by rw [cX 7 (by omega)]; exact h5.2.2.2.1, fun q q0 q1 => ?_⟩, ⟨by rw [cX 8 (by omega)]; exact h8.1, by rw [cX 9 (by omega)]; exact h8.2.1, fun q q0 q1 => ?_⟩, I0_c (w := w) (cX 0 (by omega)) h0, I18_c (w := w) (by rw [cX 18 (by omega)]) (cX 19 (by omega)) h18, I11_c (w := w) (cX 11 (by omega)) (cX 12 (by omega)) (cX 13 (by omega)) (cX 14 (by omega)) (cX 15 (by omega)) (cX 16 (by omega)) h11⟩, ?_, fun r => ?_, ?_, ?_, ?_⟩
          · rw [u13, show (w 1 3 + 1).toNat = (w 1 3).toNat + 1 by omega, lsr, Int.toNat_of_nonneg n10.1, F0, u4]
            by_cases q : j = l
            · rw [if_pos q, if_pos q.symm]
            · rw [if_neg q, if_neg (fun z => q z.symm), lS _ _ (by omega)]
              exact l4 j j0 j1
          · rw [u13] at r1
            by_cases q : r = w 1 3
            · subst q
              rw [F0, F1, F2, F3, F4, F5, lS _ _ (by omega)]
              refine ⟨cA.1, cA.2.1, cA.2.2.2.1, ⟨cA.2.2.2.2.1, cA.2.2.2.2.2.2⟩, cA.2.2.2.2.2.1, cA.2.2.1, l4 l cA.1.1 (by omega), fun hz => ?_⟩
              rw [fN _ 4 (by omega) (by omega) (by omega)]
              by_cases kn : knw w (w 4 l) e
              · exact kn.2.2
              · exact absurd ⟨hz, kn⟩ cB
            · have z := h1.2.2.2 r r0 (by omega)
              have lr := lsr_R w (fa w r 0) r.toNat
              rw [fN r 0 (by omega) (by omega) q, fN r 1 (by omega) (by omega) q, fN r 2 (by omega) (by omega) q, fN r 3 (by omega) (by omega) q, fN r 4 (by omega) (by omega) q, fN r 5 (by omega) (by omega) q, lS _ _ (by omega), fN _ 4 (by omega) (by omega) (by omega)]
              exact z
          · rw [u13] at r1
            rw [u3]; exact h3.2 r (by omega)
          · rw [cX 5 (by omega)]
            have : ska (addRw w l k n o e) (w 5 3) = ska w (w 5 3) := by unfold ska; rw [cell_tfa (w := w) (cX 6 (by omega))]
            rw [this]; exact h5.2.1
          · rw [cX 5 (by omega)] at q1
            have z := h5.2.2.2.2 q q0 q1
            unfold tok at z ⊢
            rw [cell_tfa (w := w) (cX 6 (by omega)), u13]
            omega
          · rw [cX 8 (by omega)] at q1
            have z := h8.2.2 q q0 q1
            unfold wok at z ⊢
            rw [cell_wfa (w := w) (cX 9 (by omega)), u13]
            omega
          · unfold RMn
            rw [u13, cX 5 (by omega), cX 18 (by omega), cX 8 (by omega), cX 0 (by omega)]
            exact ⟨rfl, a2, a3, a4, a5⟩
          · obtain ⟨b1, b2, b3, b4, b5, b6⟩ := b r
            have v0 : addRm w m l k n o e 1 = up m 1 (w 1 3) l 1 := by unfold addRm; rw [up_cell (by decide), up_cell (by decide), up_cell (by decide), up_cell (by decide), up_cell (by decide), up_cell (by decide)]
            have v1 : addRm w m l k n o e 2 = up m 2 (w 1 3) k 2 := by unfold addRm; rw [up_cell (by decide), up_cell (by decide), up_cell (by decide), up_cell (by decide), up_cell (by decide)]; exact up_pair (by rw [up_cell (by decide)]) rfl
            have v2 : addRm w m l k n o e 3 = up m 3 (w 1 3) n 3 := by unfold addRm; rw [up_cell (by decide), up_cell (by decide), up_cell (by decide), up_cell (by decide)]; exact up_pair (by rw [up_cell (by decide), up_cell (by decide)]) rfl
            have v3 : addRm w m l k n o e 4 = up m 4 (w 1 3) o 4 := by unfold addRm; rw [up_cell (by decide), up_cell (by decide), up_cell (by decide)]; exact up_pair (by rw [up_cell (by decide), up_cell (by decide), up_cell (by decide)]) rfl
            have v4 : addRm w m l k n o e 5 = up m 5 (w 1 3) e 5 := by unfold addRm; rw [up_cell (by decide), up_cell (by decide)]; exact up_pair (by rw [up_cell (by decide), up_cell (by decide), up_cell (by decide), up_cell (by decide)]) rfl
            have v5 : addRm w m l k n o e 6 = up m 6 (w 1 3) (w 4 l) 6 := by unfold addRm; rw [up_cell (by decide)]; exact up_pair (by rw [up_cell (by decide), up_cell (by decide), up_cell (by decide), up_cell (by decide), up_cell (by decide)]) rfl
            rw [v0, v1, v2, v3, v4, v5]
            by_cases q : r = w 1 3
            · subst q
              rw [gU _ 0 (by omega) (by omega), if_neg (by omega), if_neg (by omega), if_neg (by omega), if_neg (by omega), if_neg (by omega), if_pos ⟨e2, rfl⟩, gU _ 1 (by omega) (by omega), if_neg (by omega), if_neg (by omega), if_neg (by omega), if_neg (by omega), if_pos ⟨e2, rfl⟩, gU _ 2 (by omega) (by omega), if_neg (by omega), if_neg (by omega), if_neg (by omega), if_pos ⟨e2, rfl⟩, gU _ 3 (by omega) (by omega), if_neg (by omega), if_neg (by omega), if_pos ⟨e2, rfl⟩, gU _ 4 (by omega) (by omega), if_neg (by omega), if_pos ⟨e2, rfl⟩, gU _ 5 (by omega) (by omega), if_pos ⟨e2, rfl⟩]
              exact ⟨up_self _ _ _ _, up_self _ _ _ _, up_self _ _ _ _, up_self _ _ _ _, up_self _ _ _ _, up_self _ _ _ _⟩
            · rw [gN r 0 (by omega) (by omega) q, gN r 1 (by omega) (by omega) q, gN r 2 (by omega) (by omega) q, gN r 3 (by omega) (by omega) q, gN r 4 (by omega) (by omega) q, gN r 5 (by omega) (by omega) q]
              rw [up_ne (fun z => q z.2), up_ne (fun z => q z.2), up_ne (fun z => q z.2), up_ne (fun z => q z.2), up_ne (fun z => q z.2), up_ne (fun z => q z.2)]
              exact ⟨b1, b2, b3, b4, b5, b6⟩
          · unfold RMt
            rw [u3, cX 6 (by omega), cX 7 (by omega), cX 19 (by omega)]
            exact ⟨c3, c4, c5, c6⟩
          · unfold RMs
            rw [cX 11 (by omega), cX 12 (by omega), cX 13 (by omega), cX 14 (by omega), cX 15 (by omega), cX 16 (by omega)]
            exact d
          · unfold RMw
            rw [cX 9 (by omega)]
            exact g
        · rw [if_neg cD] at h; omega
  · rw [if_neg cA] at h; omega
theorem INV_number {w m : Wd} {r n : Int} (hw : IX w ∧ RM w m) : IX (accW (numw w r n) (up w 2 (r * 6 + 2) n) w) ∧ RM (accW (numw w r n) (up w 2 (r * 6 + 2) n) w) (accW (numw w r n) (up m 3 r n) m) := by
  refine INV_a hw (fun h => ?_)
  unfold numw at h
  by_cases c : 0 ≤ r ∧ r < w 1 3
  · rw [if_pos c] at h
    by_cases c2 : (1 ≤ n ∧ n ≤ 60) ∧ lapw w r ≤ n
    · obtain ⟨⟨h1, h3, h5, h8, h0, h18, h11⟩, a, b, c1, d, e⟩ := hw
      have n10 := h1.1
      have fU : ∀ q f : Int, 0 ≤ f → f < 6 → fa (up w 2 (r * 6 + 2) n) q f = if q = r ∧ f = 2 then n else fa w q f := fun q f f0 f1 => fa_u (by omega) (by omega) ⟨f0, f1⟩
      have fN : ∀ q f : Int, 0 ≤ f → f < 6 → ¬ f = 2 → fa (up w 2 (r * 6 + 2) n) q f = fa w q f := fun q f f0 f1 f2 => by rw [fU q f f0 f1, if_neg (fun z => f2 z.2)]
      have lS : ∀ (l : Int) (k : Nat), lsr (up w 2 (r * 6 + 2) n) l k = lsr w l k := fun l k => lsr_cg l k (fun q _ _ => fN q 0 (by omega) (by omega) (by omega))
      have mS : ∀ p : Int, mra (up w 2 (r * 6 + 2) n) p = mra w p := fun p => cnq_cg _ (fun q _ _ => by rw [fN q 1 (by omega) (by omega) (by omega)])
      refine ⟨⟨⟨h1.1, ⟨by rw [mS]; exact h1.2.1.1, h1.2.1.2⟩, fun l l0 l1 => by rw [lS]; exact h1.2.2.1 l l0 l1, fun q q0 q1 => ?_⟩, I3_c (w := w) rfl rfl h3, I5_c (w := w) rfl rfl rfl rfl h5, I8_c (w := w) rfl rfl rfl h8, I0_c (w := w) rfl h0, I18_c (w := w) rfl rfl h18, I11_c (w := w) rfl rfl rfl rfl rfl rfl h11⟩, a, fun q => ?_, c1, d, e⟩
      · have z := h1.2.2.2 q q0 q1
        have la := c2.2
        unfold lapw at la
        rw [fN q 0 (by omega) (by omega) (by omega), fN q 1 (by omega) (by omega) (by omega), fN q 3 (by omega) (by omega) (by omega), fN q 4 (by omega) (by omega) (by omega), fN q 5 (by omega) (by omega) (by omega), lS, fN _ 4 (by omega) (by omega) (by omega), fU q 2 (by omega) (by omega)]
        by_cases e2 : q = r
        · subst e2
          rw [if_pos ⟨rfl, rfl⟩]
          refine ⟨z.1, z.2.1, c2.1, z.2.2.2.1, fun k1 => ?_, z.2.2.2.2.2⟩
          rw [if_pos k1] at la
          exact la
        · rw [if_neg (fun z => e2 z.1)]
          exact z
      · obtain ⟨b1, b2, b3, b4, b5, b6⟩ := b q
        have g : ∀ f : Int, 0 ≤ f → f < 6 → ¬ f = 2 → up w 2 (r * 6 + 2) n 2 (q * 6 + f) = w 2 (q * 6 + f) := fun f f0 f1 f2 => by rw [up_m6 (by omega) ⟨f0, f1⟩, if_neg (fun z => f2 z.2)]
        refine ⟨b1.trans (g 0 (by omega) (by omega) (by omega)).symm, b2.trans (g 1 (by omega) (by omega) (by omega)).symm, ?_, b4.trans (g 3 (by omega) (by omega) (by omega)).symm, b5.trans (g 4 (by omega) (by omega) (by omega)).symm, b6.trans (g 5 (by omega) (by omega) (by omega)).symm⟩
        rw [up_m6 (by omega) (by omega)]
        by_cases e2 : q = r
        · rw [e2, up_self, if_pos ⟨rfl, rfl⟩]
        · rw [up_ne (fun z => e2 z.2), if_neg (fun z => e2 z.1)]
          exact b3
    · rw [if_neg c2] at h; omega
  · rw [if_neg c] at h; omega
theorem INV_tie {w m : Wd} {a x b y s e : Int} (hw : IX w ∧ RM w m) : IX (accW (tiew w a x b y s e) (addTw w 0 a x b y s e) w) ∧ RM (accW (tiew w a x b y s e) (addTw w 0 a x b y s e) w) (accW (tiew w a x b y s e) (addTm w m 0 a x b y s e) m) := by
  refine INV_a hw (fun h => ?_)
  unfold tiew at h
  by_cases c : pairw w a b
  · rw [if_pos c] at h
    by_cases c2 : (1 ≤ x ∧ x ≤ 99) ∧ (1 ≤ y ∧ y ≤ 99) ∧ (0 ≤ s ∧ s ≤ 20) ∧ (0 ≤ e ∧ e ≤ 9)
    · rw [if_pos c2] at h
      by_cases c3 : w 5 3 < 8
      · refine ⟨?_, RM_addT hw.2⟩
        obtain ⟨⟨h1, h3, h5, h8, h0, h18, h11⟩, -⟩ := hw
        unfold pairw at c
        have n10 := h1.1
        exact IX_addT h1 h3 ⟨h5.1.1.1, c3⟩ h5.1.2 (by rw [if_neg (by omega)]; have := h5.2.1.1; omega) h5.2.1.2 h5.2.2.1 h5.2.2.2.1 h5.2.2.2.2 h8 h0 h18 h11 (by omega) (by omega) (by omega) (by omega) (by omega) (by omega) (by omega) ⟨c.1, Or.inl ⟨by omega, c.2.1, c.2.2⟩⟩
      · rw [if_neg c3] at h; omega
    · rw [if_neg c2] at h; omega
  · rw [if_neg c] at h; omega
theorem INV_letter {w m : Wd} {a x b y e : Int} (hw : IX w ∧ RM w m) : IX (accW (letw w a x b y e) (addTw w 3 a x b y (-1) e) w) ∧ RM (accW (letw w a x b y e) (addTw w 3 a x b y (-1) e) w) (accW (letw w a x b y e) (addTm w m 3 a x b y (-1) e) m) := by
  refine INV_a hw (fun h => ?_)
  unfold letw at h
  by_cases c : pairw w a b
  · rw [if_pos c] at h
    by_cases c2 : (1 ≤ x ∧ x ≤ 99) ∧ (1 ≤ y ∧ y ≤ 99) ∧ (0 ≤ e ∧ e ≤ 9)
    · rw [if_pos c2] at h
      by_cases c3 : w 5 3 < 8
      · refine ⟨?_, RM_addT hw.2⟩
        obtain ⟨⟨h1, h3, h5, h8, h0, h18, h11⟩, -⟩ := hw
        unfold pairw at c
        have n10 := h1.1
        exact IX_addT h1 h3 ⟨h5.1.1.1, c3⟩ h5.1.2 (by rw [if_neg (by omega)]; have := h5.2.1.1; omega) h5.2.1.2 h5.2.2.1 h5.2.2.2.1 h5.2.2.2.2 h8 h0 h18 h11 (by omega) (by omega) (by omega) (by omega) (by omega) (by omega) (by omega) ⟨c.1, Or.inl ⟨by omega, c.2.1, c.2.2⟩⟩
      · rw [if_neg c3] at h; omega
    · rw [if_neg c2] at h; omega
  · rw [if_neg c] at h; omega
theorem INV_sky {w m : Wd} {a x p q r e : Int} (hw : IX w ∧ RM w m) : IX (accW (skqw w a x p q r e) (addTw (skyw w p q r) 1 a x (-1) (-1) (-1) e) w) ∧ RM (accW (skqw w a x p q r e) (addTw (skyw w p q r) 1 a x (-1) (-1) (-1) e) w) (accW (skqw w a x p q r e) (skyM w m a x p q r e) m) := by
  refine INV_a hw (fun h => ?_)
  unfold skqw at h
  by_cases c : 0 ≤ a ∧ a < w 1 3
  · rw [if_pos c] at h
    by_cases c2 : (1 ≤ x ∧ x ≤ 99) ∧ (-2000 ≤ p ∧ p ≤ 2000) ∧ (-2000 ≤ q ∧ q ≤ 2000) ∧ (-2000 ≤ r ∧ r ≤ 2000) ∧ (0 ≤ e ∧ e ≤ 9)
    · rw [if_pos c2] at h
      by_cases c3 : w 5 3 < 8 ∧ w 5 4 < 2
      · obtain ⟨⟨h1, h3, h5, h8, h0, h18, h11⟩, hM⟩ := hw
        have n10 := h1.1
        have n5 := h5.1.1
        constructor
        · refine IX_addT (w := skyw w p q r) (I1_c (w := w) rfl rfl rfl h1) (I3_c (w := w) rfl rfl h3) ⟨h5.1.1.1, c3.1⟩ h5.1.2 ?_ (show w 5 4 + 1 ≤ 2 by omega) h5.2.2.1 ?_ (fun t t0 t1 => ?_) (I8_c (w := w) rfl rfl rfl h8) (I0_c (w := w) rfl h0) (I18_c (w := w) rfl rfl h18) (I11_c (w := w) rfl rfl rfl rfl rfl rfl h11) (by omega) (by omega) (by omega) (by omega) (by omega) (by omega) (by omega) ⟨c, Or.inr ⟨Or.inl rfl, rfl⟩⟩
          · rw [if_pos rfl]
            have k := h5.2.1.1
            show w 5 4 + 1 = ska w (w 5 3) + 1
            omega
          · exact up_R (w := up (up w 7 (w 5 3 * 3) p) 7 (w 5 3 * 3 + 1) q) (p := w 5 3 * 3 + 2) c2.2.2.2.1 (up_R (p := w 5 3 * 3 + 1) c2.2.2.1 (up_R (p := w 5 3 * 3) c2.2.1 h5.2.2.2.1))
          · exact h5.2.2.2.2 t t0 t1
        · have cm : comw w = w 5 3 := if_pos c3.1
          unfold skyM
          rw [cm]
          unfold accW
          rw [if_pos n5.1]
          obtain ⟨⟨a1, a2, a3, a4, a5⟩, b, ⟨c4, c5, c6, c7⟩, d, f⟩ := hM
          refine ⟨⟨a1, rfl, a3, a4, a5⟩, b, ⟨c4, ?_, ?_, c7⟩, d, f⟩
          · exact addT_m c5 (skyw w p q r) rfl rfl
          · exact up_pair (m := up (up (addTm w m 1 a x (-1) (-1) (-1) e) 9 (3 * w 5 3) p) 9 (3 * w 5 3 + 1) q) (w := up (up w 7 (w 5 3 * 3) p) 7 (w 5 3 * 3 + 1) q) (km := 9) (kw := 7) (up_pair (m := up (addTm w m 1 a x (-1) (-1) (-1) e) 9 (3 * w 5 3) p) (w := up w 7 (w 5 3 * 3) p) (up_pair (m := addTm w m 1 a x (-1) (-1) (-1) e) (w := w) c6 (by omega)) (by omega)) (by omega)
      · rw [if_neg c3] at h; omega
    · rw [if_neg c2] at h; omega
  · rw [if_neg c] at h; omega
theorem INV_ring {w m : Wd} {a x p e : Int} (hw : IX w ∧ RM w m) : IX (accW (rinw w a x p e) (addTw (up w 7 (w 5 3 * 3) p) 2 a x (-1) (-1) (-1) e) w) ∧ RM (accW (rinw w a x p e) (addTw (up w 7 (w 5 3 * 3) p) 2 a x (-1) (-1) (-1) e) w) (accW (rinw w a x p e) (rinM w m a x p e) m) := by
  refine INV_a hw (fun h => ?_)
  unfold rinw at h
  by_cases c : 0 ≤ a ∧ a < w 1 3
  · rw [if_pos c] at h
    by_cases c2 : (1 ≤ x ∧ x ≤ 99) ∧ (-2000 ≤ p ∧ p ≤ 2000) ∧ (0 ≤ e ∧ e ≤ 9)
    · rw [if_pos c2] at h
      by_cases c3 : w 5 3 < 8
      · obtain ⟨⟨h1, h3, h5, h8, h0, h18, h11⟩, hM⟩ := hw
        have n10 := h1.1
        have n5 := h5.1.1
        constructor
        · refine IX_addT (w := up w 7 (w 5 3 * 3) p) (I1_c (w := w) rfl rfl rfl h1) (I3_c (w := w) rfl rfl h3) ⟨h5.1.1.1, c3⟩ h5.1.2 ?_ h5.2.1.2 h5.2.2.1 ?_ (fun t t0 t1 => ?_) (I8_c (w := w) rfl rfl rfl h8) (I0_c (w := w) rfl h0) (I18_c (w := w) rfl rfl h18) (I11_c (w := w) rfl rfl rfl rfl rfl rfl h11) (by omega) (by omega) (by omega) (by omega) (by omega) (by omega) (by omega) ⟨c, Or.inr ⟨Or.inr rfl, rfl⟩⟩
          · rw [if_neg (by omega)]
            have k := h5.2.1.1
            show w 5 4 = ska w (w 5 3) + 0
            omega
          · exact up_R (p := w 5 3 * 3) c2.2.1 h5.2.2.2.1
          · exact h5.2.2.2.2 t t0 t1
        · have cm : comw w = w 5 3 := if_pos c3
          unfold rinM
          rw [cm]
          unfold accW
          rw [if_pos n5.1]
          obtain ⟨⟨a1, a2, a3, a4, a5⟩, b, ⟨c4, c5, c6, c7⟩, d, f⟩ := hM
          refine ⟨⟨a1, rfl, a3, a4, a5⟩, b, ⟨c4, ?_, ?_, c7⟩, d, f⟩
          · exact addT_m c5 (up w 7 (w 5 3 * 3) p) rfl rfl
          · exact up_pair (m := addTm w m 2 a x (-1) (-1) (-1) e) (w := w) (km := 9) (kw := 7) c6 (by omega)
      · rw [if_neg c3] at h; omega
    · rw [if_neg c2] at h; omega
  · rw [if_neg c] at h; omega
theorem INV_undo {w m : Wd} (hw : IX w ∧ RM w m) : IX (accW (undw w) (undW w) w) ∧ RM (accW (undw w) (undW w) w) (accW (undw w) (up m 0 8 (w 5 3 - 1)) m) := by
  refine INV_a hw (fun h => ?_)
  unfold undw at h
  by_cases c : 0 < w 5 3
  · obtain ⟨⟨h1, h3, h5, h8, h0, h18, h11⟩, ⟨a1, a2, a3, a4, a5⟩, b, c1, d, f⟩ := hw
    have n5 := h5.1.1
    have k := h5.2.1.1
    have k2 := h5.2.1.2
    have sk : w 5 4 - bi (tfa w (w 5 3 - 1) 0 = 1) = ska w (w 5 3 - 1) := by
      unfold ska at k ⊢
      rw [show w 5 3 = (w 5 3 - 1) + 1 by omega] at k
      by_cases q : tfa w (w 5 3 - 1) 0 = 1
      · rw [cnq_y (P := fun t => tfa w t 0 = 1) (by omega) q] at k
        rw [bi_t q]; omega
      · rw [cnq_n (P := fun t => tfa w t 0 = 1) (by omega) q] at k
        rw [bi_f q]; omega
    have sb := (cnq_R (fun t => tfa w t 0 = 1) (w 5 3 - 1).toNat).1
    have bb : 0 ≤ bi (tfa w (w 5 3 - 1) 0 = 1) := by
      by_cases q : tfa w (w 5 3 - 1) 0 = 1
      · rw [bi_t q]; omega
      · rw [bi_f q]; omega
    exact ⟨⟨I1_c (w := w) rfl rfl rfl h1, I3_c (w := w) rfl rfl h3, ⟨⟨⟨show 0 ≤ w 5 3 - 1 by omega, show w 5 3 - 1 ≤ 8 by omega⟩, h5.1.2⟩, ⟨sk, show w 5 4 - bi (tfa w (w 5 3 - 1) 0 = 1) ≤ 2 by omega⟩, h5.2.2.1, h5.2.2.2.1, fun t t0 t1 => h5.2.2.2.2 t t0 (by have t1 : t < w 5 3 - 1 := t1; omega)⟩, I8_c (w := w) rfl rfl rfl h8, I0_c (w := w) rfl h0, I18_c (w := w) rfl rfl h18, I11_c (w := w) rfl rfl rfl rfl rfl rfl h11⟩, ⟨a1, rfl, a3, a4, a5⟩, b, c1, d, f⟩
  · rw [if_neg c] at h; omega
theorem INV_letters {w m : Wd} {z : Int} (hw : IX w ∧ RM w m) : IX (accW (lesw w z) (lesW w z) w) ∧ RM (accW (lesw w z) (lesW w z) w) (accW (lesw w z) (lesM w m z) m) := by
  refine INV_a hw (fun h => ?_)
  unfold lesw at h
  by_cases c : lin z 8 0 0 = -102
  · rw [if_pos c] at h; omega
  · rw [if_neg c] at h
    by_cases c2 : 60 - w 18 1 < lin z 8 0 0
    · rw [if_pos c2] at h; omega
    · have N0 := lin_R z 8 0 0 (Int.le_refl 0)
      have B := lin_b z 8 0 0 (Int.le_refl 0) (Int.le_refl 0) (fun i a b => by omega) c
      obtain ⟨⟨h1, h3, h5, h8, h0, h18, h11⟩, ⟨a1, a2, a3, a4, a5⟩, b, ⟨c3, c4, c5, c6⟩, d, f⟩ := hw
      have n18 := h18.1
      have wr : ∀ n : Nat, n ≤ (lin z 8 0 0).toNat → ∀ i : Int, 0 ≤ i → i < 60 → 0 ≤ wrB w z n 19 i ∧ wrB w z n 19 i ≤ 126 := by
        intro n
        induction n with
        | zero => exact fun _ => h18.2
        | succ n ih => exact fun hn => up_R (p := w 18 1 + (n : Nat)) (by have := B (n : Nat) (by omega) (by omega); omega) (ih (by omega))
      have pr : ∀ n : Nat, wrM w m z n 10 = wrB w z n 19 := by
        intro n
        induction n with
        | zero => exact c6
        | succ n ih => exact up_pair (m := wrM w m z n) (w := wrB w z n) ih rfl
      have cX : ∀ k : Nat, k ≠ 18 → k ≠ 19 → lesW w z k = w k := fun k k1 k2 => by unfold lesW; rw [up_cell k1, wrB_c w z k2]
      have cM : ∀ k : Nat, k ≠ 0 → k ≠ 10 → lesM w m z k = m k := fun k k1 k2 => by unfold lesM; rw [up_cell k1, wrM_c w m z k2]
      have c0 : ∀ i : Int, i ≠ 11 → lesM w m z 0 i = m 0 i := fun i k1 => by unfold lesM; rw [up_ne (fun z => k1 z.2), wrM_c w m z (by decide)]
      have u19 : lesW w z 19 = wrB w z (lin z 8 0 0).toNat 19 := by unfold lesW; rw [up_cell (by decide)]
      have u18 : lesW w z 18 1 = w 18 1 + lin z 8 0 0 := by unfold lesW; rw [up_self]
      refine ⟨⟨I1_c (w := w) (cX 1 (by decide) (by decide)) (cX 2 (by decide) (by decide)) (cX 4 (by decide) (by decide)) h1, I3_c (w := w) (cX 1 (by decide) (by decide)) (cX 3 (by decide) (by decide)) h3, I5_c (w := w) (cX 1 (by decide) (by decide)) (cX 5 (by decide) (by decide)) (cX 6 (by decide) (by decide)) (cX 7 (by decide) (by decide)) h5, I8_c (w := w) (cX 1 (by decide) (by decide)) (cX 8 (by decide) (by decide)) (cX 9 (by decide) (by decide)) h8, I0_c (w := w) (cX 0 (by decide) (by decide)) h0, ?_, I11_c (w := w) (cX 11 (by decide) (by decide)) (cX 12 (by decide) (by decide)) (cX 13 (by decide) (by decide)) (cX 14 (by decide) (by decide)) (cX 15 (by decide) (by decide)) (cX 16 (by decide) (by decide)) h11⟩, ?_, ?_, ?_, ?_, ?_⟩
      · unfold I18
        rw [u18, u19]
        exact ⟨by omega, wr _ (Nat.le_refl _)⟩
      · unfold RMn
        rw [c0 0 (by decide), c0 8 (by decide), c0 16 (by decide), c0 18 (by decide), cX 1 (by decide) (by decide), cX 5 (by decide) (by decide), cX 8 (by decide) (by decide), cX 0 (by decide) (by decide), u18]
        exact ⟨a1, a2, by unfold lesM; rw [up_self], a4, a5⟩
      · unfold RMr
        rw [cX 2 (by decide) (by decide), cM 1 (by decide) (by decide), cM 2 (by decide) (by decide), cM 3 (by decide) (by decide), cM 4 (by decide) (by decide), cM 5 (by decide) (by decide), cM 6 (by decide) (by decide)]
        exact b
      · unfold RMt
        rw [cX 3 (by decide) (by decide), cX 6 (by decide) (by decide), cX 7 (by decide) (by decide), cM 7 (by decide) (by decide), cM 8 (by decide) (by decide), cM 9 (by decide) (by decide), u19]
        exact ⟨c3, c4, c5, by unfold lesM; rw [up_cell (by decide)]; exact pr _⟩
      · unfold RMs
        rw [cX 11 (by decide) (by decide), cX 12 (by decide) (by decide), cX 13 (by decide) (by decide), cX 14 (by decide) (by decide), cX 15 (by decide) (by decide), cX 16 (by decide) (by decide), cM 11 (by decide) (by decide), cM 12 (by decide) (by decide), cM 13 (by decide) (by decide)]
        exact d
      · unfold RMw
        rw [cX 9 (by decide) (by decide), cM 14 (by decide) (by decide)]
        exact f
theorem INV_blank {w m : Wd} (hw : IX w ∧ RM w m) : IX (up w 18 1 0) ∧ RM (up w 18 1 0) (up m 0 11 0) := by
  obtain ⟨⟨h1, h3, h5, h8, h0, h18, h11⟩, ⟨a1, a2, a3, a4, a5⟩, b, c1, d, e⟩ := hw
  exact ⟨⟨I1_c (w := w) rfl rfl rfl h1, I3_c (w := w) rfl rfl h3, I5_c (w := w) rfl rfl rfl rfl h5, I8_c (w := w) rfl rfl rfl h8, I0_c (w := w) rfl h0, ⟨⟨Int.le_refl 0, show (0 : Int) ≤ 60 by omega⟩, h18.2⟩, I11_c (w := w) rfl rfl rfl rfl rfl rfl h11⟩, ⟨a1, a2, rfl, a4, a5⟩, b, c1, d, e⟩
theorem INV_fault {w m u : Wd} (hw : IX w ∧ RM w m) (h : u = faw w) : IX u ∧ RM u (rdT w m) := by
  subst h
  obtain ⟨⟨h1, h3, h5, h8, h0, h18, h11⟩, ⟨a1, a2, a3, a4, a5⟩, b, c1, d, e⟩ := hw
  exact ⟨⟨I1_c (w := w) rfl rfl rfl h1, I3_c (w := w) rfl rfl h3, I5_c (w := w) rfl rfl rfl rfl h5, I8_c (w := w) rfl rfl rfl h8, I0_c (w := w) rfl h0, I18_c (w := w) rfl rfl h18, I11_c (w := w) rfl rfl rfl rfl rfl rfl h11⟩, ⟨a1, a2, a3, a4, a5⟩, b, c1, d, e⟩
theorem scan_cg {L L' : Int → Int} : ∀ (f : Nat) (k s d : Int), (∀ j : Int, k ≤ j → j < k + f → L j = L' j) → scan L f k s d = scan L' f k s d
  | 0, _, _, _, _ => rfl
  | f + 1, k, s, d, h => by
    rw [scan, scan, h k (by omega) (by omega), scan_cg f (k + 1) _ _ (fun j a b => h j (by omega) (by omega))]
theorem VS_cg {L L' : Int → Int} {e : Int} (h : ∀ i : Int, 0 ≤ i → i < e → L i = L' i) (g : VS L e 0 0 0) : VS L' e 0 0 0 := by
  unfold VS at *
  rw [← scan_cg (L := L) (e - 0).toNat 0 0 0 (fun j a b => h j a (by omega))]
  exact g
theorem cpB_v (w : Wd) (c : Nat) (o : Int) (hc : c ≠ 19) : ∀ (n : Nat) (k : Int), cpB w c o n c k = if o ≤ k ∧ k < o + (n : Nat) then w 19 (k - o) else w c k
  | 0, k => by rw [if_neg (by omega)]; rfl
  | n + 1, k => by
    rw [cpB]
    by_cases q : k = o + (n : Nat)
    · rw [q, up_self, if_pos (by omega), show o + (n : Nat) - o = (n : Nat) by omega]
    · rw [up_ne (fun z => q z.2), cpB_v w c o hc n k]
      by_cases g : o ≤ k ∧ k < o + (n : Nat)
      · rw [if_pos g, if_pos (by omega)]
      · rw [if_neg g, if_neg (by omega)]
theorem cpM_v (w m : Wd) (t : Int) : ∀ (n : Nat) (k : Int), cpM w m t n 12 k = if 60 * t ≤ k ∧ k < 60 * t + (n : Nat) then pgl w (k - 60 * t) else m 12 k
  | 0, k => by rw [if_neg (by omega)]; rfl
  | n + 1, k => by
    rw [cpM]
    by_cases q : k = 60 * t + (n : Nat)
    · rw [q, up_self, if_pos (by omega), show 60 * t + (n : Nat) - 60 * t = (n : Nat) by omega]
    · rw [up_ne (fun z => q z.2), cpM_v w m t n k]
      by_cases g : 60 * t ≤ k ∧ k < 60 * t + (n : Nat)
      · rw [if_pos g, if_pos (by omega)]
      · rw [if_neg g, if_neg (by omega)]
theorem cpM_cg {w u m : Wd} (h : pgl u = pgl w) (t : Int) : ∀ n : Nat, cpM u m t n = cpM w m t n
  | 0 => rfl
  | n + 1 => by rw [cpM, cpM, cpM_cg h t n, h]
theorem txw_VS {w : Wd} (h : txw w) : VS (pgl w) (w 18 1) 0 0 0 := by
  unfold txw scw at h
  refine ⟨(scan (pgl w) (w 18 1).toNat 0 0 0).2.1, ?_, h.2.2⟩
  rw [show w 18 1 - 0 = w 18 1 by omega]
  exact Prod.ext h.1 (Prod.ext rfl h.2.1)
theorem INV_lrn_0 {w m : Wd} (hw : IX w ∧ RM w m) (hv : VS (pgl w) (w 18 1) 0 0 0) (h6 : w 11 2 < 6) : IX (up (up (up (cpB w 12 (w 11 2 * 60) (w 18 1).toNat) 13 (w 11 2) (w 18 1)) 11 2 (w 11 2 + 1)) 18 1 0) ∧ RM (up (up (up (cpB w 12 (w 11 2 * 60) (w 18 1).toNat) 13 (w 11 2) (w 18 1)) 11 2 (w 11 2 + 1)) 18 1 0) (up (up (up (cpM w m (6 * 0 + w 11 2) (w 18 1).toNat) 13 (6 * 0 + w 11 2) (w 18 1)) 11 0 (w 11 2 + 1)) 0 11 0) := by
  obtain ⟨⟨h1, h3, h5, h8, h0, h18, h11⟩, ⟨a1, a2, a3, a4, a5⟩, b, ⟨c3, c4, c5, c6⟩, ⟨d1, d2, d3⟩, f⟩ := hw
  have n18 := h18.1
  have n11 : 0 ≤ w 11 2 ∧ w 11 2 ≤ 6 := h11.1.1
  have n3 := (VS_4 n18.1 hv).1
  have TX : TXo w 12 13 (w 11 2) := h11.2.2.2.1
  have cX : ∀ k : Nat, k ≠ 18 → k ≠ 11 → k ≠ 12 → k ≠ 13 → (up (up (up (cpB w 12 (w 11 2 * 60) (w 18 1).toNat) 13 (w 11 2) (w 18 1)) 11 2 (w 11 2 + 1)) 18 1 0) k = w k := fun k k1 k2 k3 k4 => by rw [up_cell k1, up_cell k2, up_cell k4, cpB_c w 12 _ k3]
  have cM : ∀ k : Nat, k ≠ 0 → k ≠ 11 → k ≠ 12 → k ≠ 13 → (up (up (up (cpM w m (6 * 0 + w 11 2) (w 18 1).toNat) 13 (6 * 0 + w 11 2) (w 18 1)) 11 0 (w 11 2 + 1)) 0 11 0) k = m k := fun k k1 k2 k3 k4 => by rw [up_cell k1, up_cell k2, up_cell k4, cpM_c w m _ k3]
  have c0 : ∀ i : Int, i ≠ 11 → (up (up (up (cpM w m (6 * 0 + w 11 2) (w 18 1).toNat) 13 (6 * 0 + w 11 2) (w 18 1)) 11 0 (w 11 2 + 1)) 0 11 0) 0 i = m 0 i := fun i k1 => by rw [up_ne (fun z => k1 z.2), up_cell (by decide), up_cell (by decide), cpM_c w m _ (by decide)]
  have xa : (up (up (up (cpB w 12 (w 11 2 * 60) (w 18 1).toNat) 13 (w 11 2) (w 18 1)) 11 2 (w 11 2 + 1)) 18 1 0) 11 2 = w 11 2 + 1 := by rw [up_cell (by decide), up_self]
  have xb : (up (up (up (cpB w 12 (w 11 2 * 60) (w 18 1).toNat) 13 (w 11 2) (w 18 1)) 11 2 (w 11 2 + 1)) 18 1 0) 12 = cpB w 12 (w 11 2 * 60) (w 18 1).toNat 12 := by rw [up_cell (by decide), up_cell (by decide), up_cell (by decide)]
  have xc : (up (up (up (cpB w 12 (w 11 2 * 60) (w 18 1).toNat) 13 (w 11 2) (w 18 1)) 11 2 (w 11 2 + 1)) 18 1 0) 13 = up (cpB w 12 (w 11 2 * 60) (w 18 1).toNat) 13 (w 11 2) (w 18 1) 13 := by rw [up_cell (by decide), up_cell (by decide)]
  have x18 : (up (up (up (cpB w 12 (w 11 2 * 60) (w 18 1).toNat) 13 (w 11 2) (w 18 1)) 11 2 (w 11 2 + 1)) 18 1 0) 18 1 = 0 := by rw [up_self]
  have x19 : (up (up (up (cpB w 12 (w 11 2 * 60) (w 18 1).toNat) 13 (w 11 2) (w 18 1)) 11 2 (w 11 2 + 1)) 18 1 0) 19 = w 19 := cX 19 (by decide) (by decide) (by decide) (by decide)
  have xcv : ∀ k : Int, (up (up (up (cpB w 12 (w 11 2 * 60) (w 18 1).toNat) 13 (w 11 2) (w 18 1)) 11 2 (w 11 2 + 1)) 18 1 0) 13 k = if k = w 11 2 then w 18 1 else w 13 k := fun k => by
    rw [xc]
    by_cases q : k = w 11 2
    · rw [q, up_self, if_pos rfl]
    · rw [up_ne (fun z => q z.2), if_neg q, cpB_c w 12 _ (by decide)]
  have xbv : ∀ k : Int, (up (up (up (cpB w 12 (w 11 2 * 60) (w 18 1).toNat) 13 (w 11 2) (w 18 1)) 11 2 (w 11 2 + 1)) 18 1 0) 12 k = if w 11 2 * 60 ≤ k ∧ k < w 11 2 * 60 + w 18 1 then w 19 (k - w 11 2 * 60) else w 12 k := fun k => by
    rw [xb, cpB_v w 12 _ (by decide)]
    rw [Int.toNat_of_nonneg n18.1]
  have m13 : ∀ k : Int, (up (up (up (cpM w m (6 * 0 + w 11 2) (w 18 1).toNat) 13 (6 * 0 + w 11 2) (w 18 1)) 11 0 (w 11 2 + 1)) 0 11 0) 13 k = if k = 6 * 0 + w 11 2 then w 18 1 else m 13 k := fun k => by
    rw [up_cell (by decide), up_cell (by decide)]
    by_cases q : k = 6 * 0 + w 11 2
    · rw [q, up_self, if_pos rfl]
    · rw [up_ne (fun z => q z.2), if_neg q, cpM_c w m _ (by decide)]
  have m12 : ∀ k : Int, (up (up (up (cpM w m (6 * 0 + w 11 2) (w 18 1).toNat) 13 (6 * 0 + w 11 2) (w 18 1)) 11 0 (w 11 2 + 1)) 0 11 0) 12 k = if 60 * (6 * 0 + w 11 2) ≤ k ∧ k < 60 * (6 * 0 + w 11 2) + w 18 1 then pgl w (k - 60 * (6 * 0 + w 11 2)) else m 12 k := fun k => by
    rw [up_cell (by decide), up_cell (by decide), up_cell (by decide), cpM_v]
    rw [Int.toNat_of_nonneg n18.1]
  have m11 : (up (up (up (cpM w m (6 * 0 + w 11 2) (w 18 1).toNat) 13 (6 * 0 + w 11 2) (w 18 1)) 11 0 (w 11 2 + 1)) 0 11 0) 11 0 = w 11 2 + 1 := by rw [up_cell (by decide), up_self]
  have m11o : (up (up (up (cpM w m (6 * 0 + w 11 2) (w 18 1).toNat) 13 (6 * 0 + w 11 2) (w 18 1)) 11 0 (w 11 2 + 1)) 0 11 0) 11 1 = m 11 1 := by rw [up_cell (by decide), up_ne (by omega), up_cell (by decide), cpM_c w m _ (by decide)]
  have m10 : (up (up (up (cpM w m (6 * 0 + w 11 2) (w 18 1).toNat) 13 (6 * 0 + w 11 2) (w 18 1)) 11 0 (w 11 2 + 1)) 0 11 0) 10 = m 10 := cM 10 (by decide) (by decide) (by decide) (by decide)
  have m011 : (up (up (up (cpM w m (6 * 0 + w 11 2) (w 18 1).toNat) 13 (6 * 0 + w 11 2) (w 18 1)) 11 0 (w 11 2 + 1)) 0 11 0) 0 11 = 0 := by rw [up_self]
  generalize up (up (up (cpB w 12 (w 11 2 * 60) (w 18 1).toNat) 13 (w 11 2) (w 18 1)) 11 2 (w 11 2 + 1)) 18 1 0 = u at *
  generalize up (up (up (cpM w m (6 * 0 + w 11 2) (w 18 1).toNat) 13 (6 * 0 + w 11 2) (w 18 1)) 11 0 (w 11 2 + 1)) 0 11 0 = v at *
  refine ⟨⟨I1_c (w := w) (cX 1 (by decide) (by decide) (by decide) (by decide)) (cX 2 (by decide) (by decide) (by decide) (by decide)) (cX 4 (by decide) (by decide) (by decide) (by decide)) h1, I3_c (w := w) (cX 1 (by decide) (by decide) (by decide) (by decide)) (cX 3 (by decide) (by decide) (by decide) (by decide)) h3, I5_c (w := w) (cX 1 (by decide) (by decide) (by decide) (by decide)) (cX 5 (by decide) (by decide) (by decide) (by decide)) (cX 6 (by decide) (by decide) (by decide) (by decide)) (cX 7 (by decide) (by decide) (by decide) (by decide)) h5, I8_c (w := w) (cX 1 (by decide) (by decide) (by decide) (by decide)) (cX 8 (by decide) (by decide) (by decide) (by decide)) (cX 9 (by decide) (by decide) (by decide) (by decide)) h8, I0_c (w := w) (cX 0 (by decide) (by decide) (by decide) (by decide)) h0, ?_, ?_⟩, ?_, ?_, ?_, ?_, ?_⟩
  · unfold I18
    rw [x18, x19]
    exact ⟨by omega, h18.2⟩
  · have rb : ∀ i : Int, 0 ≤ i → i < 360 → 0 ≤ u 12 i ∧ u 12 i ≤ 126 := fun i i0 i1 => by
      rw [xbv]
      by_cases q : w 11 2 * 60 ≤ i ∧ i < w 11 2 * 60 + w 18 1
      · rw [if_pos q]; exact h18.2 _ (by omega) (by omega)
      · rw [if_neg q]; exact (h11.2.1 i i0 i1).1
    have rc : ∀ i : Int, 0 ≤ i → i < 6 → 0 ≤ u 13 i ∧ u 13 i ≤ 60 := fun i i0 i1 => by
      rw [xcv]
      by_cases q : i = w 11 2
      · rw [if_pos q]; exact n18
      · rw [if_neg q]; exact (h11.2.2.1 i i0 i1).1
    unfold I11
    rw [xa, (cX 14 (by decide) (by decide) (by decide) (by decide)), (cX 15 (by decide) (by decide) (by decide) (by decide)), (cX 16 (by decide) (by decide) (by decide) (by decide))]
    refine ⟨⟨by omega, h11.1.2⟩, fun i i0 i1 => ⟨rb i i0 i1, (h11.2.1 i i0 i1).2⟩, fun i i0 i1 => ⟨rc i i0 i1, (h11.2.2.1 i i0 i1).2⟩, ?_⟩
    have oT : TXo u 15 16 (w 14 2) := by
      unfold TXo
      rw [show rd u 15 360 = rd w 15 360 from funext fun i => rd_c (cX 15 (by decide) (by decide) (by decide) (by decide)) _ _, show rd u 16 6 = rd w 16 6 from funext fun i => rd_c (cX 16 (by decide) (by decide) (by decide) (by decide)) _ _]
      exact h11.2.2.2.2
    have nT : TXo u 12 13 (w 11 2 + 1) := by
      intro k k0 k1
      by_cases q : k = w 11 2
      · have e1 : rd u 13 6 k = w 18 1 := by rw [rd_in k0 (by omega), xcv, if_pos q]
        have e2 : ∀ i : Int, 0 ≤ i → i < w 18 1 → rd u 12 360 (k * 60 + i) = pgl w i := fun i i0 i1 => by
          rw [rd_in (by omega) (by omega), xbv, if_pos (by omega)]
          unfold pgl
          rw [rd_in i0 (by omega), show k * 60 + i - w 11 2 * 60 = i by rw [q]; omega]
        rw [e1]
        refine ⟨⟨n3, n18.2⟩, VS_cg (fun i i0 i1 => (e2 i i0 i1).symm) hv, fun i i0 i1 => ?_⟩
        rw [e2 i i0 i1]
        unfold pgl
        rw [rd_in i0 (by omega)]
        exact h18.2 i i0 (by omega)
      · have T := TX k k0 (by omega)
        have e1 : rd u 13 6 k = rd w 13 6 k := by rw [rd_in k0 (by omega), rd_in k0 (by omega), xcv, if_neg q]
        have e2 : ∀ i : Int, 0 ≤ i → i < rd w 13 6 k → rd u 12 360 (k * 60 + i) = rd w 12 360 (k * 60 + i) := fun i i0 i1 => by
          rw [rd_in (by omega) (by omega), rd_in (by omega) (by omega), xbv, if_neg (by omega)]
        rw [e1]
        refine ⟨T.1, VS_cg (fun i i0 i1 => (e2 i i0 i1).symm) T.2.1, fun i i0 i1 => ?_⟩
        rw [e2 i i0 i1]
        exact T.2.2 i i0 i1
    unfold TXI
    rw [xa, (cX 14 (by decide) (by decide) (by decide) (by decide))]
    exact ⟨nT, oT⟩
  · unfold RMn
    rw [c0 0 (by decide), c0 8 (by decide), c0 16 (by decide), c0 18 (by decide), m011, x18, (cX 1 (by decide) (by decide) (by decide) (by decide)), (cX 5 (by decide) (by decide) (by decide) (by decide)), (cX 8 (by decide) (by decide) (by decide) (by decide)), (cX 0 (by decide) (by decide) (by decide) (by decide))]
    exact ⟨a1, a2, rfl, a4, a5⟩
  · unfold RMr
    rw [(cX 2 (by decide) (by decide) (by decide) (by decide)), (cM 1 (by decide) (by decide) (by decide) (by decide)), (cM 2 (by decide) (by decide) (by decide) (by decide)), (cM 3 (by decide) (by decide) (by decide) (by decide)), (cM 4 (by decide) (by decide) (by decide) (by decide)), (cM 5 (by decide) (by decide) (by decide) (by decide)), (cM 6 (by decide) (by decide) (by decide) (by decide))]
    exact b
  · unfold RMt
    rw [(cX 3 (by decide) (by decide) (by decide) (by decide)), (cX 6 (by decide) (by decide) (by decide) (by decide)), (cX 7 (by decide) (by decide) (by decide) (by decide)), (cM 7 (by decide) (by decide) (by decide) (by decide)), (cM 8 (by decide) (by decide) (by decide) (by decide)), (cM 9 (by decide) (by decide) (by decide) (by decide)), m10, x19]
    exact ⟨c3, c4, c5, c6⟩
  · unfold RMs
    rw [xa, m11, m11o, (cX 14 (by decide) (by decide) (by decide) (by decide)), (cX 15 (by decide) (by decide) (by decide) (by decide)), (cX 16 (by decide) (by decide) (by decide) (by decide))]
    refine ⟨⟨rfl, d1.2⟩, fun i i0 i1 => ?_, fun i i0 i1 => ?_⟩
    · have e := d2 i i0 i1
      rw [m12, m12, xbv]
      by_cases q : w 11 2 * 60 ≤ i ∧ i < w 11 2 * 60 + w 18 1
      · have pq : pgl w (i - w 11 2 * 60) = w 19 (i - w 11 2 * 60) := rd_in (by omega) (by omega)
        rw [if_pos q]
        rw [if_pos (by omega), if_neg (by omega), show i - 60 * (6 * 0 + w 11 2) = i - w 11 2 * 60 by omega]; exact ⟨pq, e.2⟩
      · rw [if_neg q, if_neg (by omega), if_neg (by omega)]; exact e
    · have e := d3 i i0 i1
      rw [m13, m13, xcv]
      by_cases q : i = w 11 2
      · rw [if_pos q]
        rw [if_pos (by omega), if_neg (by omega)]; exact ⟨rfl, e.2⟩
      · rw [if_neg q, if_neg (by omega), if_neg (by omega)]; exact e
  · unfold RMw
    rw [(cX 9 (by decide) (by decide) (by decide) (by decide)), (cM 14 (by decide) (by decide) (by decide) (by decide))]
    exact f
theorem INV_lrn_1 {w m : Wd} (hw : IX w ∧ RM w m) (hv : VS (pgl w) (w 18 1) 0 0 0) (h6 : w 14 2 < 6) : IX (up (up (up (cpB w 15 (w 14 2 * 60) (w 18 1).toNat) 16 (w 14 2) (w 18 1)) 14 2 (w 14 2 + 1)) 18 1 0) ∧ RM (up (up (up (cpB w 15 (w 14 2 * 60) (w 18 1).toNat) 16 (w 14 2) (w 18 1)) 14 2 (w 14 2 + 1)) 18 1 0) (up (up (up (cpM w m (6 * 1 + w 14 2) (w 18 1).toNat) 13 (6 * 1 + w 14 2) (w 18 1)) 11 1 (w 14 2 + 1)) 0 11 0) := by
  obtain ⟨⟨h1, h3, h5, h8, h0, h18, h11⟩, ⟨a1, a2, a3, a4, a5⟩, b, ⟨c3, c4, c5, c6⟩, ⟨d1, d2, d3⟩, f⟩ := hw
  have n18 := h18.1
  have n11 : 0 ≤ w 14 2 ∧ w 14 2 ≤ 6 := h11.1.2
  have n3 := (VS_4 n18.1 hv).1
  have TX : TXo w 15 16 (w 14 2) := h11.2.2.2.2
  have cX : ∀ k : Nat, k ≠ 18 → k ≠ 14 → k ≠ 15 → k ≠ 16 → (up (up (up (cpB w 15 (w 14 2 * 60) (w 18 1).toNat) 16 (w 14 2) (w 18 1)) 14 2 (w 14 2 + 1)) 18 1 0) k = w k := fun k k1 k2 k3 k4 => by rw [up_cell k1, up_cell k2, up_cell k4, cpB_c w 15 _ k3]
  have cM : ∀ k : Nat, k ≠ 0 → k ≠ 11 → k ≠ 12 → k ≠ 13 → (up (up (up (cpM w m (6 * 1 + w 14 2) (w 18 1).toNat) 13 (6 * 1 + w 14 2) (w 18 1)) 11 1 (w 14 2 + 1)) 0 11 0) k = m k := fun k k1 k2 k3 k4 => by rw [up_cell k1, up_cell k2, up_cell k4, cpM_c w m _ k3]
  have c0 : ∀ i : Int, i ≠ 11 → (up (up (up (cpM w m (6 * 1 + w 14 2) (w 18 1).toNat) 13 (6 * 1 + w 14 2) (w 18 1)) 11 1 (w 14 2 + 1)) 0 11 0) 0 i = m 0 i := fun i k1 => by rw [up_ne (fun z => k1 z.2), up_cell (by decide), up_cell (by decide), cpM_c w m _ (by decide)]
  have xa : (up (up (up (cpB w 15 (w 14 2 * 60) (w 18 1).toNat) 16 (w 14 2) (w 18 1)) 14 2 (w 14 2 + 1)) 18 1 0) 14 2 = w 14 2 + 1 := by rw [up_cell (by decide), up_self]
  have xb : (up (up (up (cpB w 15 (w 14 2 * 60) (w 18 1).toNat) 16 (w 14 2) (w 18 1)) 14 2 (w 14 2 + 1)) 18 1 0) 15 = cpB w 15 (w 14 2 * 60) (w 18 1).toNat 15 := by rw [up_cell (by decide), up_cell (by decide), up_cell (by decide)]
  have xc : (up (up (up (cpB w 15 (w 14 2 * 60) (w 18 1).toNat) 16 (w 14 2) (w 18 1)) 14 2 (w 14 2 + 1)) 18 1 0) 16 = up (cpB w 15 (w 14 2 * 60) (w 18 1).toNat) 16 (w 14 2) (w 18 1) 16 := by rw [up_cell (by decide), up_cell (by decide)]
  have x18 : (up (up (up (cpB w 15 (w 14 2 * 60) (w 18 1).toNat) 16 (w 14 2) (w 18 1)) 14 2 (w 14 2 + 1)) 18 1 0) 18 1 = 0 := by rw [up_self]
  have x19 : (up (up (up (cpB w 15 (w 14 2 * 60) (w 18 1).toNat) 16 (w 14 2) (w 18 1)) 14 2 (w 14 2 + 1)) 18 1 0) 19 = w 19 := cX 19 (by decide) (by decide) (by decide) (by decide)
  have xcv : ∀ k : Int, (up (up (up (cpB w 15 (w 14 2 * 60) (w 18 1).toNat) 16 (w 14 2) (w 18 1)) 14 2 (w 14 2 + 1)) 18 1 0) 16 k = if k = w 14 2 then w 18 1 else w 16 k := fun k => by
    rw [xc]
    by_cases q : k = w 14 2
    · rw [q, up_self, if_pos rfl]
    · rw [up_ne (fun z => q z.2), if_neg q, cpB_c w 15 _ (by decide)]
  have xbv : ∀ k : Int, (up (up (up (cpB w 15 (w 14 2 * 60) (w 18 1).toNat) 16 (w 14 2) (w 18 1)) 14 2 (w 14 2 + 1)) 18 1 0) 15 k = if w 14 2 * 60 ≤ k ∧ k < w 14 2 * 60 + w 18 1 then w 19 (k - w 14 2 * 60) else w 15 k := fun k => by
    rw [xb, cpB_v w 15 _ (by decide)]
    rw [Int.toNat_of_nonneg n18.1]
  have m13 : ∀ k : Int, (up (up (up (cpM w m (6 * 1 + w 14 2) (w 18 1).toNat) 13 (6 * 1 + w 14 2) (w 18 1)) 11 1 (w 14 2 + 1)) 0 11 0) 13 k = if k = 6 * 1 + w 14 2 then w 18 1 else m 13 k := fun k => by
    rw [up_cell (by decide), up_cell (by decide)]
    by_cases q : k = 6 * 1 + w 14 2
    · rw [q, up_self, if_pos rfl]
    · rw [up_ne (fun z => q z.2), if_neg q, cpM_c w m _ (by decide)]
  have m12 : ∀ k : Int, (up (up (up (cpM w m (6 * 1 + w 14 2) (w 18 1).toNat) 13 (6 * 1 + w 14 2) (w 18 1)) 11 1 (w 14 2 + 1)) 0 11 0) 12 k = if 60 * (6 * 1 + w 14 2) ≤ k ∧ k < 60 * (6 * 1 + w 14 2) + w 18 1 then pgl w (k - 60 * (6 * 1 + w 14 2)) else m 12 k := fun k => by
    rw [up_cell (by decide), up_cell (by decide), up_cell (by decide), cpM_v]
    rw [Int.toNat_of_nonneg n18.1]
  have m11 : (up (up (up (cpM w m (6 * 1 + w 14 2) (w 18 1).toNat) 13 (6 * 1 + w 14 2) (w 18 1)) 11 1 (w 14 2 + 1)) 0 11 0) 11 1 = w 14 2 + 1 := by rw [up_cell (by decide), up_self]
  have m11o : (up (up (up (cpM w m (6 * 1 + w 14 2) (w 18 1).toNat) 13 (6 * 1 + w 14 2) (w 18 1)) 11 1 (w 14 2 + 1)) 0 11 0) 11 0 = m 11 0 := by rw [up_cell (by decide), up_ne (by omega), up_cell (by decide), cpM_c w m _ (by decide)]
  have m10 : (up (up (up (cpM w m (6 * 1 + w 14 2) (w 18 1).toNat) 13 (6 * 1 + w 14 2) (w 18 1)) 11 1 (w 14 2 + 1)) 0 11 0) 10 = m 10 := cM 10 (by decide) (by decide) (by decide) (by decide)
  have m011 : (up (up (up (cpM w m (6 * 1 + w 14 2) (w 18 1).toNat) 13 (6 * 1 + w 14 2) (w 18 1)) 11 1 (w 14 2 + 1)) 0 11 0) 0 11 = 0 := by rw [up_self]
  generalize up (up (up (cpB w 15 (w 14 2 * 60) (w 18 1).toNat) 16 (w 14 2) (w 18 1)) 14 2 (w 14 2 + 1)) 18 1 0 = u at *
  generalize up (up (up (cpM w m (6 * 1 + w 14 2) (w 18 1).toNat) 13 (6 * 1 + w 14 2) (w 18 1)) 11 1 (w 14 2 + 1)) 0 11 0 = v at *
  refine ⟨⟨I1_c (w := w) (cX 1 (by decide) (by decide) (by decide) (by decide)) (cX 2 (by decide) (by decide) (by decide) (by decide)) (cX 4 (by decide) (by decide) (by decide) (by decide)) h1, I3_c (w := w) (cX 1 (by decide) (by decide) (by decide) (by decide)) (cX 3 (by decide) (by decide) (by decide) (by decide)) h3, I5_c (w := w) (cX 1 (by decide) (by decide) (by decide) (by decide)) (cX 5 (by decide) (by decide) (by decide) (by decide)) (cX 6 (by decide) (by decide) (by decide) (by decide)) (cX 7 (by decide) (by decide) (by decide) (by decide)) h5, I8_c (w := w) (cX 1 (by decide) (by decide) (by decide) (by decide)) (cX 8 (by decide) (by decide) (by decide) (by decide)) (cX 9 (by decide) (by decide) (by decide) (by decide)) h8, I0_c (w := w) (cX 0 (by decide) (by decide) (by decide) (by decide)) h0, ?_, ?_⟩, ?_, ?_, ?_, ?_, ?_⟩
  · unfold I18
    rw [x18, x19]
    exact ⟨by omega, h18.2⟩
  · have rb : ∀ i : Int, 0 ≤ i → i < 360 → 0 ≤ u 15 i ∧ u 15 i ≤ 126 := fun i i0 i1 => by
      rw [xbv]
      by_cases q : w 14 2 * 60 ≤ i ∧ i < w 14 2 * 60 + w 18 1
      · rw [if_pos q]; exact h18.2 _ (by omega) (by omega)
      · rw [if_neg q]; exact (h11.2.1 i i0 i1).2
    have rc : ∀ i : Int, 0 ≤ i → i < 6 → 0 ≤ u 16 i ∧ u 16 i ≤ 60 := fun i i0 i1 => by
      rw [xcv]
      by_cases q : i = w 14 2
      · rw [if_pos q]; exact n18
      · rw [if_neg q]; exact (h11.2.2.1 i i0 i1).2
    unfold I11
    rw [xa, (cX 11 (by decide) (by decide) (by decide) (by decide)), (cX 12 (by decide) (by decide) (by decide) (by decide)), (cX 13 (by decide) (by decide) (by decide) (by decide))]
    refine ⟨⟨h11.1.1, by omega⟩, fun i i0 i1 => ⟨(h11.2.1 i i0 i1).1, rb i i0 i1⟩, fun i i0 i1 => ⟨(h11.2.2.1 i i0 i1).1, rc i i0 i1⟩, ?_⟩
    have oT : TXo u 12 13 (w 11 2) := by
      unfold TXo
      rw [show rd u 12 360 = rd w 12 360 from funext fun i => rd_c (cX 12 (by decide) (by decide) (by decide) (by decide)) _ _, show rd u 13 6 = rd w 13 6 from funext fun i => rd_c (cX 13 (by decide) (by decide) (by decide) (by decide)) _ _]
      exact h11.2.2.2.1
    have nT : TXo u 15 16 (w 14 2 + 1) := by
      intro k k0 k1
      by_cases q : k = w 14 2
      · have e1 : rd u 16 6 k = w 18 1 := by rw [rd_in k0 (by omega), xcv, if_pos q]
        have e2 : ∀ i : Int, 0 ≤ i → i < w 18 1 → rd u 15 360 (k * 60 + i) = pgl w i := fun i i0 i1 => by
          rw [rd_in (by omega) (by omega), xbv, if_pos (by omega)]
          unfold pgl
          rw [rd_in i0 (by omega), show k * 60 + i - w 14 2 * 60 = i by rw [q]; omega]
        rw [e1]
        refine ⟨⟨n3, n18.2⟩, VS_cg (fun i i0 i1 => (e2 i i0 i1).symm) hv, fun i i0 i1 => ?_⟩
        rw [e2 i i0 i1]
        unfold pgl
        rw [rd_in i0 (by omega)]
        exact h18.2 i i0 (by omega)
      · have T := TX k k0 (by omega)
        have e1 : rd u 16 6 k = rd w 16 6 k := by rw [rd_in k0 (by omega), rd_in k0 (by omega), xcv, if_neg q]
        have e2 : ∀ i : Int, 0 ≤ i → i < rd w 16 6 k → rd u 15 360 (k * 60 + i) = rd w 15 360 (k * 60 + i) := fun i i0 i1 => by
          rw [rd_in (by omega) (by omega), rd_in (by omega) (by omega), xbv, if_neg (by omega)]
        rw [e1]
        refine ⟨T.1, VS_cg (fun i i0 i1 => (e2 i i0 i1).symm) T.2.1, fun i i0 i1 => ?_⟩
        rw [e2 i i0 i1]
        exact T.2.2 i i0 i1
    unfold TXI
    rw [xa, (cX 11 (by decide) (by decide) (by decide) (by decide))]
    exact ⟨oT, nT⟩
  · unfold RMn
    rw [c0 0 (by decide), c0 8 (by decide), c0 16 (by decide), c0 18 (by decide), m011, x18, (cX 1 (by decide) (by decide) (by decide) (by decide)), (cX 5 (by decide) (by decide) (by decide) (by decide)), (cX 8 (by decide) (by decide) (by decide) (by decide)), (cX 0 (by decide) (by decide) (by decide) (by decide))]
    exact ⟨a1, a2, rfl, a4, a5⟩
  · unfold RMr
    rw [(cX 2 (by decide) (by decide) (by decide) (by decide)), (cM 1 (by decide) (by decide) (by decide) (by decide)), (cM 2 (by decide) (by decide) (by decide) (by decide)), (cM 3 (by decide) (by decide) (by decide) (by decide)), (cM 4 (by decide) (by decide) (by decide) (by decide)), (cM 5 (by decide) (by decide) (by decide) (by decide)), (cM 6 (by decide) (by decide) (by decide) (by decide))]
    exact b
  · unfold RMt
    rw [(cX 3 (by decide) (by decide) (by decide) (by decide)), (cX 6 (by decide) (by decide) (by decide) (by decide)), (cX 7 (by decide) (by decide) (by decide) (by decide)), (cM 7 (by decide) (by decide) (by decide) (by decide)), (cM 8 (by decide) (by decide) (by decide) (by decide)), (cM 9 (by decide) (by decide) (by decide) (by decide)), m10, x19]
    exact ⟨c3, c4, c5, c6⟩
  · unfold RMs
    rw [xa, m11, m11o, (cX 11 (by decide) (by decide) (by decide) (by decide)), (cX 12 (by decide) (by decide) (by decide) (by decide)), (cX 13 (by decide) (by decide) (by decide) (by decide))]
    refine ⟨⟨d1.1, rfl⟩, fun i i0 i1 => ?_, fun i i0 i1 => ?_⟩
    · have e := d2 i i0 i1
      rw [m12, m12, xbv]
      by_cases q : w 14 2 * 60 ≤ i ∧ i < w 14 2 * 60 + w 18 1
      · have pq : pgl w (i - w 14 2 * 60) = w 19 (i - w 14 2 * 60) := rd_in (by omega) (by omega)
        rw [if_pos q]
        rw [if_neg (by omega), if_pos (by omega), show 360 + i - 60 * (6 * 1 + w 14 2) = i - w 14 2 * 60 by omega]; exact ⟨e.1, pq⟩
      · rw [if_neg q, if_neg (by omega), if_neg (by omega)]; exact e
    · have e := d3 i i0 i1
      rw [m13, m13, xcv]
      by_cases q : i = w 14 2
      · rw [if_pos q]
        rw [if_neg (by omega), if_pos (by omega)]; exact ⟨e.1, rfl⟩
      · rw [if_neg q, if_neg (by omega), if_neg (by omega)]; exact e
  · unfold RMw
    rw [(cX 9 (by decide) (by decide) (by decide) (by decide)), (cM 14 (by decide) (by decide) (by decide) (by decide))]
    exact f
theorem INV_text {w m u : Wd} {s : Int} (hw : IX w ∧ RM w m) (h : u = texW w s) : IX u ∧ RM u (texM w m s) := by
  subst h
  unfold texW texM
  by_cases hs : s = 0 ∨ s = 1
  · rw [if_pos hs, if_pos hs]
    have hf := INV_fault hw rfl
    refine INV_a hf (fun h => ?_)
    by_cases c : txw w
    · by_cases c6 : 6 ≤ txn w s
      · rw [texw_b hs c c6] at h; omega
      · have hv : VS (pgl (faw w)) (faw w 18 1) 0 0 0 := txw_VS c
        rcases hs with rfl | rfl
        · have e : ltM w (rdT w m) 0 = up (up (up (cpM (faw w) (rdT w m) (6 * 0 + faw w 11 2) (faw w 18 1).toNat) 13 (6 * 0 + faw w 11 2) (faw w 18 1)) 11 0 (faw w 11 2 + 1)) 0 11 0 := by
            unfold ltM
            rw [cpM_cg (w := w) (u := faw w) rfl]
            rfl
          rw [e]
          exact INV_lrn_0 hf hv (by have : txn w 0 = w 11 2 := rfl; show w 11 2 < 6; omega)
        · have e : ltM w (rdT w m) 1 = up (up (up (cpM (faw w) (rdT w m) (6 * 1 + faw w 14 2) (faw w 18 1).toNat) 13 (6 * 1 + faw w 14 2) (faw w 18 1)) 11 1 (faw w 14 2 + 1)) 0 11 0 := by
            unfold ltM
            rw [cpM_cg (w := w) (u := faw w) rfl]
            rfl
          rw [e]
          exact INV_lrn_1 hf hv (by have : txn w 1 = w 14 2 := rfl; show w 14 2 < 6; omega)
    · rw [texw_a hs c] at h; omega
  · rw [if_neg hs, if_neg hs]; exact hw
theorem INV_strike_0 {w m : Wd} (hw : IX w ∧ RM w m) : IX (accW (strw w 0) (strW w 0) w) ∧ RM (accW (strw w 0) (strW w 0) w) (accW (strw w 0) (up m 11 0 (txn w 0 - 1)) m) := by
  refine INV_a hw (fun h => ?_)
  have h : 0 ≤ if 0 < w 11 2 then w 11 2 - 1 else -103 := h
  by_cases c : 0 < w 11 2
  · obtain ⟨⟨h1, h3, h5, h8, h0, h18, h11⟩, ⟨a1, a2, a3, a4, a5⟩, b, c1, ⟨d1, d2, d3⟩, f⟩ := hw
    have q := h11.1
    have T := h11.2.2.2
    exact ⟨⟨I1_c (w := w) rfl rfl rfl h1, I3_c (w := w) rfl rfl h3, I5_c (w := w) rfl rfl rfl rfl h5, I8_c (w := w) rfl rfl rfl h8, I0_c (w := w) rfl h0, I18_c (w := w) rfl rfl h18, ⟨⟨⟨show 0 ≤ w 11 2 - 1 by omega, show w 11 2 - 1 ≤ 6 by omega⟩, q.2⟩, h11.2.1, h11.2.2.1, ⟨fun k k0 k1 => T.1 k k0 (by have k1 : k < w 11 2 - 1 := k1; omega), T.2⟩⟩⟩, ⟨a1, a2, a3, a4, a5⟩, b, c1, ⟨⟨rfl, d1.2⟩, d2, d3⟩, f⟩
  · rw [if_neg c] at h; omega
theorem INV_strike_1 {w m : Wd} (hw : IX w ∧ RM w m) : IX (accW (strw w 1) (strW w 1) w) ∧ RM (accW (strw w 1) (strW w 1) w) (accW (strw w 1) (up m 11 1 (txn w 1 - 1)) m) := by
  refine INV_a hw (fun h => ?_)
  have h : 0 ≤ if 0 < w 14 2 then w 14 2 - 1 else -103 := h
  by_cases c : 0 < w 14 2
  · obtain ⟨⟨h1, h3, h5, h8, h0, h18, h11⟩, ⟨a1, a2, a3, a4, a5⟩, b, c1, ⟨d1, d2, d3⟩, f⟩ := hw
    have q := h11.1
    have T := h11.2.2.2
    exact ⟨⟨I1_c (w := w) rfl rfl rfl h1, I3_c (w := w) rfl rfl h3, I5_c (w := w) rfl rfl rfl rfl h5, I8_c (w := w) rfl rfl rfl h8, I0_c (w := w) rfl h0, I18_c (w := w) rfl rfl h18, ⟨⟨q.1, ⟨show 0 ≤ w 14 2 - 1 by omega, show w 14 2 - 1 ≤ 6 by omega⟩⟩, h11.2.1, h11.2.2.1, ⟨T.1, fun k k0 k1 => T.2 k k0 (by have k1 : k < w 14 2 - 1 := k1; omega)⟩⟩⟩, ⟨a1, a2, a3, a4, a5⟩, b, c1, ⟨⟨d1.1, rfl⟩, d2, d3⟩, f⟩
  · rw [if_neg c] at h; omega
theorem INV_strike_n {w m : Wd} {s : Int} (hw : IX w ∧ RM w m) (hs : ¬ (s = 0 ∨ s = 1)) : IX (accW (strw w s) (strW w s) w) ∧ RM (accW (strw w s) (strW w s) w) (accW (strw w s) (up m 11 s (txn w s - 1)) m) := by
  refine INV_a hw (fun h => ?_)
  unfold strw at h
  rw [if_neg hs] at h
  omega
theorem INV_wish {w m : Wd} {a x b y s : Int} (hw : IX w ∧ RM w m) : IX (accW (wisw w a x b y s) (addWw w 0 a x b y s 0) w) ∧ RM (accW (wisw w a x b y s) (addWw w 0 a x b y s 0) w) (accW (wisw w a x b y s) (addWm w m a x b y s) m) := by
  refine INV_a hw (fun h => ?_)
  unfold wisw at h
  by_cases c : pairw w a b
  · rw [if_pos c] at h
    by_cases c2 : (1 ≤ x ∧ x ≤ 99) ∧ (1 ≤ y ∧ y ≤ 99) ∧ (0 ≤ s ∧ s ≤ 20)
    · rw [if_pos c2] at h
      by_cases c3 : w 8 3 < 6
      · obtain ⟨⟨h1, h3, h5, h8, h0, h18, h11⟩, ⟨a1, a2, a3, a4, a5⟩, r, c1, d, e⟩ := hw
        unfold pairw at c
        have n10 := h1.1
        have n6 := h8.1.1
        have fU : ∀ q f : Int, 0 ≤ f → f < 7 → wfa (addWw w 0 a x b y s 0) q f = if q = w 8 3 ∧ f = 6 then 0 else if q = w 8 3 ∧ f = 5 then s else if q = w 8 3 ∧ f = 4 then y else if q = w 8 3 ∧ f = 3 then b else if q = w 8 3 ∧ f = 2 then x else if q = w 8 3 ∧ f = 1 then a else if q = w 8 3 ∧ f = 0 then 0 else wfa w q f := fun q f f0 f1 => by
          unfold addWw
          rw [cell_wfa (w := up (up (up (up (up (up (up w 9 (w 8 3 * 7 + 0) 0) 9 (w 8 3 * 7 + 1) a) 9 (w 8 3 * 7 + 2) x) 9 (w 8 3 * 7 + 3) b) 9 (w 8 3 * 7 + 4) y) 9 (w 8 3 * 7 + 5) s) 9 (w 8 3 * 7 + 6) 0) (up_cell (by decide))]
          rw [wfa_u (by omega) (by omega) ⟨f0, f1⟩, wfa_u (by omega) (by omega) ⟨f0, f1⟩, wfa_u (by omega) (by omega) ⟨f0, f1⟩, wfa_u (by omega) (by omega) ⟨f0, f1⟩, wfa_u (by omega) (by omega) ⟨f0, f1⟩, wfa_u (by omega) (by omega) ⟨f0, f1⟩, wfa_u (by omega) (by omega) ⟨f0, f1⟩]
        have fN : ∀ q f : Int, 0 ≤ f → f < 7 → ¬ q = w 8 3 → wfa (addWw w 0 a x b y s 0) q f = wfa w q f := fun q f f0 f1 hq => by
          rw [fU q f f0 f1, if_neg (fun z => hq z.1), if_neg (fun z => hq z.1), if_neg (fun z => hq z.1), if_neg (fun z => hq z.1), if_neg (fun z => hq z.1), if_neg (fun z => hq z.1), if_neg (fun z => hq z.1)]
        refine ⟨⟨I1_c (w := w) rfl rfl rfl h1, I3_c (w := w) rfl rfl h3, I5_c (w := w) rfl rfl rfl rfl h5, ⟨⟨⟨show 0 ≤ w 8 3 + 1 by omega, show w 8 3 + 1 ≤ 6 by omega⟩, h8.1.2⟩, ?_, fun t t0 t1 => ?_⟩, I0_c (w := w) rfl h0, I18_c (w := w) rfl rfl h18, I11_c (w := w) rfl rfl rfl rfl rfl rfl h11⟩, ⟨a1, a2, a3, ?_, a5⟩, r, c1, d, fun t => ?_⟩
        · exact up_R (p := w 8 3 * 7 + 6) (by omega) (up_R (p := w 8 3 * 7 + 5) (by omega) (up_R (p := w 8 3 * 7 + 4) (by omega) (up_R (p := w 8 3 * 7 + 3) (by omega) (up_R (p := w 8 3 * 7 + 2) (by omega) (up_R (p := w 8 3 * 7 + 1) (by omega) (up_R (p := w 8 3 * 7 + 0) (by omega) h8.2.1))))))
        · have t1 : t < w 8 3 + 1 := t1
          unfold wok
          by_cases e2 : t = w 8 3
          · rw [fU t 1 (by omega) (by omega), if_neg (by omega), if_neg (by omega), if_neg (by omega), if_neg (by omega), if_neg (by omega), if_pos ⟨e2, rfl⟩, fU t 3 (by omega) (by omega), if_neg (by omega), if_neg (by omega), if_neg (by omega), if_pos ⟨e2, rfl⟩, fU t 6 (by omega) (by omega), if_pos ⟨e2, rfl⟩]
            exact ⟨⟨c.1.1, c.1.2⟩, ⟨c.2.1.1, c.2.1.2⟩, c.2.2, rfl⟩
          · rw [fN t 1 (by omega) (by omega) e2, fN t 3 (by omega) (by omega) e2, fN t 6 (by omega) (by omega) e2]
            exact h8.2.2 t t0 (by omega)
        · show w 8 3 + 1 = w 8 3 + 1; rfl
        · obtain ⟨e1, e2, e3, e4, e5⟩ := e t
          unfold addWw addWm
          by_cases q : t = w 8 3
          · subst q
            refine ⟨?_, ?_, ?_, ?_, ?_⟩
            · rw [up_ne (by omega), up_ne (by omega), up_ne (by omega), up_ne (by omega), up_ne (by omega), up_self, up_ne (by omega), up_ne (by omega), up_ne (by omega), up_ne (by omega), up_ne (by omega), up_ne (by omega), up_self]
            · rw [up_ne (by omega), up_ne (by omega), up_ne (by omega), up_ne (by omega), up_self, up_ne (by omega), up_ne (by omega), up_ne (by omega), up_ne (by omega), up_ne (by omega), up_self]
            · rw [up_ne (by omega), up_ne (by omega), up_ne (by omega), up_self, up_ne (by omega), up_ne (by omega), up_ne (by omega), up_ne (by omega), up_self]
            · rw [up_ne (by omega), up_ne (by omega), up_self, up_ne (by omega), up_ne (by omega), up_ne (by omega), up_self]
            · rw [up_ne (by omega), up_self, up_ne (by omega), up_ne (by omega), up_self]
          · refine ⟨?_, ?_, ?_, ?_, ?_⟩
            · rw [up_ne (by omega), up_ne (by omega), up_ne (by omega), up_ne (by omega), up_ne (by omega), up_ne (by omega), up_ne (by omega), up_ne (by omega), up_ne (by omega), up_ne (by omega), up_ne (by omega), up_ne (by omega), up_ne (by omega), up_ne (by omega)]; exact e1
            · rw [up_ne (by omega), up_ne (by omega), up_ne (by omega), up_ne (by omega), up_ne (by omega), up_ne (by omega), up_ne (by omega), up_ne (by omega), up_ne (by omega), up_ne (by omega), up_ne (by omega), up_ne (by omega), up_ne (by omega), up_ne (by omega)]; exact e2
            · rw [up_ne (by omega), up_ne (by omega), up_ne (by omega), up_ne (by omega), up_ne (by omega), up_ne (by omega), up_ne (by omega), up_ne (by omega), up_ne (by omega), up_ne (by omega), up_ne (by omega), up_ne (by omega), up_ne (by omega), up_ne (by omega)]; exact e3
            · rw [up_ne (by omega), up_ne (by omega), up_ne (by omega), up_ne (by omega), up_ne (by omega), up_ne (by omega), up_ne (by omega), up_ne (by omega), up_ne (by omega), up_ne (by omega), up_ne (by omega), up_ne (by omega), up_ne (by omega), up_ne (by omega)]; exact e4
            · rw [up_ne (by omega), up_ne (by omega), up_ne (by omega), up_ne (by omega), up_ne (by omega), up_ne (by omega), up_ne (by omega), up_ne (by omega), up_ne (by omega), up_ne (by omega), up_ne (by omega), up_ne (by omega), up_ne (by omega), up_ne (by omega)]; exact e5
      · rw [if_neg c3] at h; omega
    · rw [if_neg c2] at h; omega
  · rw [if_neg c] at h; omega
theorem INV_tell {w m : Wd} {r y : Int} (hw : IX w ∧ RM w m) : IX (telW w r y) ∧ RM (telW w r y) (telM w m r y) := by
  unfold telW telM
  by_cases c : (0 ≤ r ∧ r < w 1 3) ∧ -2000 ≤ y ∧ y ≤ 2000
  · rw [if_pos c, if_pos c]
    obtain ⟨⟨h1, h3, h5, h8, h0, h18, h11⟩, a, b, ⟨c1, c2, c3, c4⟩, d, e⟩ := hw
    refine ⟨⟨I1_c (w := w) rfl rfl rfl h1, ⟨up_R (by omega) h3.1, fun q hq => ?_⟩, I5_c (w := w) rfl rfl rfl rfl h5, I8_c (w := w) rfl rfl rfl h8, I0_c (w := w) rfl h0, I18_c (w := w) rfl rfl h18, I11_c (w := w) rfl rfl rfl rfl rfl rfl h11⟩, a, b, ⟨up_pair c1 rfl, c2, c3, c4⟩, d, e⟩
    have hq : w 1 3 ≤ q := hq
    rw [up_ne (by omega)]
    exact h3.2 q hq
  · rw [if_neg c, if_neg c]; exact hw
theorem INV_doubt {w m u v : Wd} {s e wh : Int} (hw : IX w ∧ RM w m) (h : sq (dbqW w s e wh) u) (g : sm (dbM w m s e wh) v) : IX u ∧ RM u v := by
  have key : IX (dbqW w s e wh) ∧ RM (dbqW w s e wh) (dbM w m s e wh) := by
    unfold dbqW dbM
    by_cases c : refq s e = 0 ∧ (0 ≤ wh ∧ wh ≤ 1) ∧ w 0 8 < 10
    · rw [if_pos c, if_pos c]
      obtain ⟨⟨h1, h3, h5, h8, h0, h18, h11⟩, r⟩ := hw
      unfold I0 at h0
      exact ⟨⟨I1_c (w := w) rfl rfl rfl h1, I3_c (w := w) rfl rfl h3, I5_c (w := w) rfl rfl rfl rfl h5, I8_c (w := w) rfl rfl rfl h8, ⟨show 0 ≤ w 0 8 + 1 by omega, show w 0 8 + 1 ≤ 10 by omega⟩, I18_c (w := w) rfl rfl h18, I11_c (w := w) rfl rfl rfl rfl rfl rfl h11⟩, RM_18 r _⟩
    · rw [if_neg c, if_neg c]; exact hw
  exact INV_q key h g

