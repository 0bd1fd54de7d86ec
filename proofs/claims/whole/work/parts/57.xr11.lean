/-- what the reference's walks ask of the class' world -/
def IM (w : Wd) : Prop := (RI w ∧ INJ w ∧ TI w ∧ WI w ∧ TN w) ∧ (ska w (w 5 3) ≤ 2 ∧ mra w (w 1 3) ≤ 3) ∧ (∀ r : Int, 0 ≤ r → r < w 1 3 → ¬ fa w r 5 = -1 → fa w (fa w r 5) 4 ≤ fa w r 4) ∧ (∀ t : Int, 0 ≤ t → t < w 5 3 → (tfa w t 0 = 0 ∨ tfa w t 0 = 3) → ¬ tfa w t 1 = tfa w t 3) ∧ (∀ t : Int, 0 ≤ t → t < w 8 3 → ¬ wfa w t 1 = wfa w t 3) ∧ ((0 ≤ w 11 2 ∧ w 11 2 ≤ 6) ∧ (0 ≤ w 14 2 ∧ w 14 2 ≤ 6)) ∧ TXI w
/-- the ties of b and the wish are known -/
def KB (w : Wd) (e b wi : Int) : Prop := (∀ t : Int, 0 ≤ t → t < w 5 3 → inb b t → fa w (tfa w t 1) 4 ≤ e ∧ (0 ≤ tfa w t 3 → fa w (tfa w t 3) 4 ≤ e)) ∧ (¬ wi = -1 → (0 ≤ wi ∧ wi < w 8 3) ∧ fa w (wfa w wi 1) 4 ≤ e ∧ fa w (wfa w wi 3) 4 ≤ e)
theorem KB_L {w : Wd} {e b wi : Int} (h : IM w) (k : KB w e b wi) : LH w e b wi := ⟨h.2.2.1, h.2.1.2, k.1, k.2⟩
theorem IM_K {w : Wd} (h : IM w) {s : Int} (hs : s = 0 ∨ s = 1) (r : Int) : cntw w s r = 0 ∨ cntw w s r = 1 := cnt_01 h.2.2.2.2.2.2 h.2.2.2.2.2.1.1 h.2.2.2.2.2.1.2 hs
def mnU (S : (Int → Int) → Prop) (r m : Int) : Prop := (∃ v, S v ∧ v r - v 10 = m) ∧ ∀ v, S v → m ≤ v r - v 10
def mxU (S : (Int → Int) → Prop) (r m : Int) : Prop := (∃ v, S v ∧ v r - v 10 = m) ∧ ∀ v, S v → v r - v 10 ≤ m
def ACC (w u : Wd) (s e b wi n : Int) : Prop := (u 0 30 = 0 ∨ u 0 30 = 1) ∧ (u 0 30 = 1 ↔ ∃ v, UC w e (cntw w s) b wi n v) ∧ (∀ r : Int, 0 ≤ r → r < w 1 3 → (¬ fa w r 4 ≤ e ∨ u 0 30 = 0) → u 21 r = -9999 ∧ u 22 r = -9999) ∧ (u 0 30 = 1 → ∀ r : Int, 0 ≤ r → r < w 1 3 → fa w r 4 ≤ e → mnU (UC w e (cntw w s) b wi n) r (u 21 r) ∧ mxU (UC w e (cntw w s) b wi n) r (u 22 r))
theorem UC_s {w : Wd} {e b wi n : Int} {K : Int → Int} (n0 : 0 ≤ n) (v : Int → Int) : UC w e K b wi (n + 1) v ↔ UC w e K b wi n v ∨ (VC w e n ∧ SC w e K n b wi v) := by
  constructor
  · rintro ⟨c, hc, a, b⟩
    by_cases q : c = n
    · rw [q] at a b; exact Or.inr ⟨a, b⟩
    · exact Or.inl ⟨c, by omega, a, b⟩
  · rintro (⟨c, hc, q⟩ | q)
    · exact ⟨c, by omega, q⟩
    · exact ⟨n, by omega, q⟩
theorem mnU_c {S T : (Int → Int) → Prop} {r m : Int} (e : ∀ v, S v ↔ T v) (h : mnU S r m) : mnU T r m := ⟨by obtain ⟨v, a, b⟩ := h.1; exact ⟨v, (e v).mp a, b⟩, fun v q => h.2 v ((e v).mpr q)⟩
theorem mxU_c {S T : (Int → Int) → Prop} {r m : Int} (e : ∀ v, S v ↔ T v) (h : mxU S r m) : mxU T r m := ⟨by obtain ⟨v, a, b⟩ := h.1; exact ⟨v, (e v).mp a, b⟩, fun v q => h.2 v ((e v).mpr q)⟩
theorem ACC_0 {w u : Wd} {s e b wi : Int} (h0 : u 0 30 = 0) (h : ∀ r : Int, 0 ≤ r → r < w 1 3 → u 21 r = -9999 ∧ u 22 r = -9999) : ACC w u s e b wi 0 :=
  ⟨Or.inl h0, ⟨fun q => by omega, fun ⟨v, c, hc, _⟩ => by omega⟩, fun r a b _ => h r a b, fun q => by omega⟩
theorem ACC_n {w u x : Wd} {s e b wi n : Int} (n0 : 0 ≤ n) (h : ACC w u s e b wi n) (hn : ¬ (VC w e n ∧ ∃ v, SC w e (cntw w s) n b wi v)) (e0 : x 0 30 = u 0 30) (e21 : x 21 = u 21) (e22 : x 22 = u 22) : ACC w x s e b wi (n + 1) := by
  have ev : ∀ v, UC w e (cntw w s) b wi n v ↔ UC w e (cntw w s) b wi (n + 1) v := fun v => by
    rw [UC_s n0]
    exact ⟨Or.inl, fun q => q.elim id (fun y => absurd ⟨y.1, v, y.2⟩ hn)⟩
  obtain ⟨h1, h2, h3, h4⟩ := h
  unfold ACC
  rw [e0, e21, e22]
  exact ⟨h1, h2.trans ⟨fun ⟨v, q⟩ => ⟨v, (ev v).mp q⟩, fun ⟨v, q⟩ => ⟨v, (ev v).mpr q⟩⟩, h3, fun q r a b c => ⟨mnU_c ev (h4 q r a b c).1, mxU_c ev (h4 q r a b c).2⟩⟩
theorem ACC_y {w u z x : Wd} {s e b wi n : Int} (n0 : 0 ≤ n) (hn : w 1 3 ≤ 10) (h : ACC w u s e b wi n) (hV : VC w e n) (e0 : z 0 30 = u 0 30) (e21 : z 21 = u 21) (e22 : z 22 = u 22) (hC : CLD (mm z)) (hS : ∀ v, Sat 11 (mm z) v ↔ SC w e (cntw w s) n b wi v) (hx : tkR w z e (w 1 3) x) : ACC w (up x 0 30 1) s e b wi (n + 1) := by
  obtain ⟨h1, h2, h3, h4⟩ := h
  have f1 : (up x 0 30 1) 0 30 = 1 := up_self _ _ _ _
  have f21 : (up x 0 30 1) 21 = x 21 := up_cell (by decide)
  have f22 : (up x 0 30 1) 22 = x 22 := up_cell (by decide)
  unfold ACC
  rw [f1, f21, f22]
  refine ⟨Or.inr rfl, ⟨fun _ => ?_, fun _ => rfl⟩, fun r r0 r1 q => ?_, fun _ r r0 r1 hr => ?_⟩
  · obtain ⟨v, q, _⟩ := (cld_mn hC (r := 0) (by omega) (by omega)).1
    exact ⟨v, (UC_s n0 v).mpr (Or.inr ⟨hV, (hS v).mp q⟩)⟩
  · have hk : ¬ fa w r 4 ≤ e := by omega
    have y := hx.2.2 r (Or.inr hk)
    rw [y.1, y.2, e21, e22]
    exact h3 r r0 r1 (Or.inl hk)
  · have y := hx.2.1 r r0 r1 hr
    have a := cld_mn hC (r := r) r0 (by omega)
    have b' := cld_mx hC (r := r) r0 (by omega)
    rw [y.1, y.2, e0, e21, e22]
    have up1 : ∀ v, Sat 11 (mm z) v → UC w e (cntw w s) b wi (n + 1) v := fun v q => (UC_s n0 v).mpr (Or.inr ⟨hV, (hS v).mp q⟩)
    have dn : ∀ v, UC w e (cntw w s) b wi (n + 1) v → UC w e (cntw w s) b wi n v ∨ Sat 11 (mm z) v := fun v q => ((UC_s n0 v).mp q).elim Or.inl (fun y => Or.inr ((hS v).mpr y.2))
    have up0 : ∀ v, UC w e (cntw w s) b wi n v → UC w e (cntw w s) b wi (n + 1) v := fun v q => (UC_s n0 v).mpr (Or.inl q)
    obtain ⟨⟨v1, a1, a2⟩, a3⟩ := a
    obtain ⟨⟨v2, b1, b2⟩, b3⟩ := b'
    rcases h1 with h1 | h1
    · have no : ∀ v, ¬ UC w e (cntw w s) b wi n v := fun v q => by have := h2.mpr ⟨v, q⟩; omega
      rw [if_pos (Or.inl h1), if_pos (Or.inl h1)]
      exact ⟨⟨⟨v1, up1 v1 a1, a2⟩, fun v q => (dn v q).elim (fun y => absurd y (no v)) (a3 v)⟩, ⟨⟨v2, up1 v2 b1, b2⟩, fun v q => (dn v q).elim (fun y => absurd y (no v)) (b3 v)⟩⟩
    · have g := h4 h1 r r0 r1 hr
      obtain ⟨⟨⟨v3, c1, c2⟩, c3⟩, ⟨v4, d1, d2⟩, d3⟩ := g
      refine ⟨⟨?_, fun v q => ?_⟩, ⟨?_, fun v q => ?_⟩⟩
      · by_cases c : u 0 30 = 0 ∨ -(mm z r 10) < u 21 r
        · rw [if_pos c]; exact ⟨v1, up1 v1 a1, a2⟩
        · rw [if_neg c]; exact ⟨v3, up0 v3 c1, c2⟩
      · rcases dn v q with y | y
        · have := c3 v y; split <;> omega
        · have := a3 v y; split <;> omega
      · by_cases c : u 0 30 = 0 ∨ u 22 r < mm z 10 r
        · rw [if_pos c]; exact ⟨v2, up1 v2 b1, b2⟩
        · rw [if_neg c]; exact ⟨v4, up0 v4 d1, d2⟩
      · rcases dn v q with y | y
        · have := d3 v y; split <;> omega
        · have := b3 v y; split <;> omega
/-- solved: whether there is a ladder, and the spans -/
def SVR (w u : Wd) (s e b wi : Int) : Prop := u 0 30 = bi (hasL w s e b wi) ∧ ∀ r : Int, 0 ≤ r → r < w 1 3 → u 21 r = spn w s e b wi r 0 ∧ u 22 r = spn w s e b wi r 1
def SVS (w u : Wd) (s e b wi : Int) : Prop := SVR w u s e b wi ∧ SPO w s e b wi
theorem ACC_S {w u : Wd} {s e b wi : Int} (hI : IM w) (hs : s = 0 ∨ s = 1) (hk : KB w e b wi) (h : ACC w u s e b wi 72) : SVS w u s e b wi := by
  obtain ⟨h1, h2, h3, h4⟩ := h
  have hL := KB_L hI hk
  obtain ⟨⟨i1, i2, i3, i4, i5⟩, ⟨i6, i7⟩, _⟩ := id hI
  have hK := fun (r : Int) (_ : 0 ≤ r) (_ : r < w 1 3) => IM_K hI hs r
  have toL : ∀ v, UC w e (cntw w s) b wi 72 v → LQ w s e b wi (cnv w e v) := fun v q => UC_L i1 i3 i4 hK (by omega) hL q
  have toU : ∀ v, LQ w s e b wi v → UC w e (cntw w s) b wi 72 (vnc w e v) := fun v q => L_UC i1 i2 i3 i4 i6 i5 hK hL q
  have ex : (∃ v, UC w e (cntw w s) b wi 72 v) ↔ hasL w s e b wi := ⟨fun ⟨v, q⟩ => ⟨_, toL v q⟩, fun ⟨v, q⟩ => ⟨_, toU v q⟩⟩
  have n10 := i1.1
  have e30 : u 0 30 = 1 ↔ hasL w s e b wi := h2.trans ex
  have sp : ∀ r : Int, 0 ≤ r → r < w 1 3 → u 21 r = spn w s e b wi r 0 ∧ u 22 r = spn w s e b wi r 1 := by
    intro r r0 r1
    unfold spn
    by_cases q : hasL w s e b wi ∧ knw w r e
    · rw [if_pos q, if_pos q, if_pos rfl, if_neg (by omega)]
      have hr := q.2.2.2
      have g := h4 (e30.mpr q.1) r r0 r1 hr
      obtain ⟨⟨⟨v3, c1, c2⟩, c3⟩, ⟨v4, d1, d2⟩, d3⟩ := g
      have yc : ∀ v, yf r (cnv w e v) = v r - v 10 := fun v => by unfold yf; rw [cnv_r v r0 r1 hr, cnv_0]
      have yv : ∀ v, vnc w e v r - vnc w e v 10 = yf r v := fun v => by unfold yf; rw [vnc_r v r0 r1 hr, vnc_10 v n10.2]
      refine ⟨(mnv_e ⟨⟨cnv w e v3, toL v3 c1, by rw [yc]; exact c2⟩, fun v y => ?_⟩).symm, (mxv_e ⟨⟨cnv w e v4, toL v4 d1, by rw [yc]; exact d2⟩, fun v y => ?_⟩).symm⟩
      · have := c3 _ (toU v y); rw [yv] at this; exact this
      · have := d3 _ (toU v y); rw [yv] at this; exact this
    · rw [if_neg q, if_neg q]
      refine h3 r r0 r1 ?_
      by_cases y : fa w r 4 ≤ e
      · right
        rcases h1 with z | z
        · exact z
        · exact absurd ⟨e30.mp z, r0, r1, y⟩ q
      · exact Or.inl y
  refine ⟨⟨?_, sp⟩, fun r r0 r1 => ?_⟩
  · rcases h1 with y | y
    · rw [y, bi_f (fun q => by have := e30.mpr q; omega)]
    · rw [y, bi_t (e30.mp y)]
  · have z := sp r r0 r1
    rw [← z.1, ← z.2]
    by_cases q : fa w r 4 ≤ e ∧ u 0 30 = 1
    · have g := h4 q.2 r r0 r1 q.1
      obtain ⟨⟨⟨v3, c1, c2⟩, c3⟩, ⟨v4, d1, d2⟩, d3⟩ := g
      have k1 := d3 v3 c1
      obtain ⟨_, _, _, ⟨⟨_, n3, _⟩, _⟩, _⟩ := c1
      obtain ⟨_, _, _, ⟨⟨_, n4, _⟩, _⟩, _⟩ := d1
      have m3 := n3 r r0 r1 q.1
      have m4 := n4 r r0 r1 q.1
      omega
    · have y := h3 r r0 r1 (by omega)
      omega
/-- alike in what lasts and in what lies beside a question -/
def ws (m u : Wd) : Prop := sm m u ∧ u 23 = m 23 ∧ u 24 = m 24 ∧ u 0 33 = m 0 33
theorem ws_r (m : Wd) : ws m m := ⟨sm_r m, rfl, rfl, rfl⟩
theorem ws_t {a b c : Wd} (h : ws a b) (g : ws b c) : ws a c := ⟨sm_t h.1 g.1, g.2.1.trans h.2.1, g.2.2.1.trans h.2.2.1, g.2.2.2.trans h.2.2.2⟩
theorem ws_RM {w m u : Wd} (h : ws m u) (g : RM w m) : RM w u := sm_RM h.1 g
theorem wk_ws {m u : Wd} (h : wk m u) : ws m u := ⟨wk_sm h, h.1 23 (by decide) (by decide) (by decide) (by decide) (by decide), h.1 24 (by decide) (by decide) (by decide) (by decide) (by decide), h.2 33 (by omega)⟩
theorem c19_ws {m u : Wd} (h : c19 m u) : ws m u := ⟨c19_sm h, h 23 (by decide), h 24 (by decide), by rw [h 0 (by decide)]⟩
/-- counted so far -/
def CNT (w u : Wd) (s n : Int) : Prop := u 0 30 = 0 ∧ ∀ r : Int, 0 ≤ r → r < n → u 20 r = cntw w s r ∧ u 21 r = -9999 ∧ u 22 r = -9999
theorem CNT_s {w u : Wd} {s n : Int} (h : CNT w u s n) : CNT w (up (up (up u 20 n (cntw w s n)) 21 n (-9999)) 22 n (-9999)) s (n + 1) := by
  refine ⟨by rw [up_cell (by decide), up_cell (by decide), up_cell (by decide)]; exact h.1, fun r r0 r1 => ?_⟩
  by_cases q : r = n
  · subst q
    exact ⟨by rw [up_cell (by decide), up_cell (by decide), up_self], by rw [up_cell (by decide), up_self], by rw [up_self]⟩
  · have y := h.2 r r0 (by omega)
    exact ⟨by rw [up_cell (by decide), up_cell (by decide), up_ne (by omega)]; exact y.1, by rw [up_cell (by decide), up_ne (by omega), up_cell (by decide)]; exact y.2.1, by rw [up_ne (by omega), up_cell (by decide), up_cell (by decide)]; exact y.2.2⟩
theorem CNT_k {w u x : Wd} {s n : Int} (h : CNT w u s n) (g : wk u x) : CNT w x s n := by
  have a20 := g.1 20 (by decide) (by decide) (by decide) (by decide) (by decide)
  have a21 := g.1 21 (by decide) (by decide) (by decide) (by decide) (by decide)
  have a22 := g.1 22 (by decide) (by decide) (by decide) (by decide) (by decide)
  unfold CNT
  rw [g.2 30 (by omega), a20, a21, a22]
  exact h
theorem ws_up {m u : Wd} (h : ws m u) {k : Nat} (hk : k = 20 ∨ k = 21 ∨ k = 22) (i v : Int) : ws m (up u k i v) := ⟨⟨fun c a b => by rw [up_cell (by omega)]; exact h.1.1 c a b, by rw [up_cell (by omega)]; exact h.1.2.1, by rw [up_cell (by omega)]; exact h.1.2.2.1, by rw [up_cell (by omega)]; exact h.1.2.2.2.1, by rw [up_cell (by omega)]; exact h.1.2.2.2.2.1, by rw [up_cell (by omega)]; exact h.1.2.2.2.2.2⟩, by rw [up_cell (by omega)]; exact h.2.1, by rw [up_cell (by omega)]; exact h.2.2.1, by rw [up_cell (by omega)]; exact h.2.2.2⟩
theorem ws_30 {m u : Wd} (h : ws m u) (v : Int) : ws m (up u 0 30 v) := ⟨⟨fun c a b => by rw [up_cell (by omega)]; exact h.1.1 c a b, by rw [up_ne (by omega)]; exact h.1.2.1, by rw [up_ne (by omega)]; exact h.1.2.2.1, by rw [up_ne (by omega)]; exact h.1.2.2.2.1, by rw [up_ne (by omega)]; exact h.1.2.2.2.2.1, by rw [up_ne (by omega)]; exact h.1.2.2.2.2.2⟩, by rw [up_cell (by omega)]; exact h.2.1, by rw [up_cell (by omega)]; exact h.2.2.1, by rw [up_ne (by omega)]; exact h.2.2.2⟩
theorem tk_ws {w m u : Wd} {e n : Int} (h : tkR w m e n u) : ws m u := ⟨⟨fun c a b => h.1 c (by omega) (by omega), by rw [h.1 0 (by omega) (by omega)], by rw [h.1 0 (by omega) (by omega)], by rw [h.1 0 (by omega) (by omega)], by rw [h.1 0 (by omega) (by omega)], by rw [h.1 0 (by omega) (by omega)]⟩, h.1 23 (by omega) (by omega), h.1 24 (by omega) (by omega), by rw [h.1 0 (by omega) (by omega)]⟩
theorem rmW {w m : Wd} (h : RM w m) {t : Int} (h0 : 0 ≤ t) (h1 : t < 6) : m 14 (5 * t) = wfa w t 1 ∧ m 14 (5 * t + 1) = wfa w t 2 ∧ m 14 (5 * t + 2) = wfa w t 3 ∧ m 14 (5 * t + 3) = wfa w t 4 ∧ m 14 (5 * t + 4) = wfa w t 5 := by
  rw [wfa_in h0 h1 (by omega) (by omega), wfa_in h0 h1 (by omega) (by omega), wfa_in h0 h1 (by omega) (by omega), wfa_in h0 h1 (by omega) (by omega), wfa_in h0 h1 (by omega) (by omega)]
  exact h.2.2.2.2 t
/-- the ties of b laid, those ahead of n -/
def STn (w y : Wd) (s e c b n : Int) : Prop := MB (mm y) ∧ ∀ v, Sat 11 (mm y) v ↔ (FARc v ∧ KNc w e (w 1 3) v ∧ LCc w e (cntw w s) c (w 1 3) v) ∧ ∀ t : Int, 0 ≤ t → t < n → inb b t → TC w c t v
theorem STn_n {w y : Wd} {s e c b n : Int} (h : STn w y s e c b n) (hn : ¬ inb b n) : STn w y s e c b (n + 1) := ⟨h.1, fun v => (h.2 v).trans ⟨fun q => ⟨q.1, fun t t0 t1 hb => by
  by_cases z : t = n
  · rw [z] at hb; exact absurd hb hn
  · exact q.2 t t0 (by omega) hb⟩, fun q => ⟨q.1, fun t t0 t1 hb => q.2 t t0 (by omega) hb⟩⟩⟩
theorem STn_y {w y x : Wd} {s e c b n : Int} (n0 : 0 ≤ n) (h : STn w y s e c b n) (hb : inb b n) (hx : TQ w y c n x) : STn w x s e c b (n + 1) := ⟨hx.2.1 h.1, fun v => (hx.2.2 v).trans ((and_congr (h.2 v) Iff.rfl).trans ⟨fun q => ⟨q.1.1, fun t t0 t1 hb' => by
  by_cases z : t = n
  · rw [z]; exact q.2
  · exact q.1.2 t t0 (by omega) hb'⟩, fun q => ⟨⟨q.1, fun t t0 t1 hb' => q.2 t t0 (by omega) hb'⟩, q.2 n n0 (by omega) hb⟩⟩)⟩

