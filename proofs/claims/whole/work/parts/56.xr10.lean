/-! choices against ladders -/
theorem cnq_mono {P : Int → Prop} (i : Nat) : ∀ d : Nat, cnq P i ≤ cnq P (i + d)
  | 0 => Int.le_refl _
  | d + 1 => by
    have h := cnq_mono (P := P) i d
    rw [show i + (d + 1) = (i + d) + 1 by omega, cnq]
    split <;> omega
theorem cnq_le {P : Int → Prop} {i j : Int} (h : i ≤ j) : cnq P i.toNat ≤ cnq P j.toNat := by
  have := cnq_mono (P := P) i.toNat (j.toNat - i.toNat)
  rw [show i.toNat + (j.toNat - i.toNat) = j.toNat by omega] at this
  exact this
theorem cnq_lt {P : Int → Prop} {i j : Int} (i0 : 0 ≤ i) (hp : P i) (h : i < j) : cnq P i.toNat < cnq P j.toNat := by
  have a := cnq_y i0 hp
  have b := cnq_le (P := P) (show i + 1 ≤ j by omega)
  omega
theorem cnq_in {P : Int → Prop} {i j : Int} (i0 : 0 ≤ i) (j0 : 0 ≤ j) (hi : P i) (hj : P j) (e : cnq P i.toNat = cnq P j.toNat) : i = j := by
  rcases (show i < j ∨ i = j ∨ j < i by omega) with h | h | h
  · have := cnq_lt i0 hi h; omega
  · exact h
  · have := cnq_lt j0 hj h; omega
def WCc (w : Wd) (wi : Int) (v : Int → Int) : Prop := wfa w wi 4 - wfa w wi 2 - wfa w wi 5 ≤ v (wfa w wi 1) - v (wfa w wi 3) ∧ v (wfa w wi 1) - v (wfa w wi 3) ≤ wfa w wi 4 - wfa w wi 2 + wfa w wi 5
def SC (w : Wd) (e : Int) (K : Int → Int) (c b wi : Int) (v : Int → Int) : Prop := ((FARc v ∧ KNc w e (w 1 3) v ∧ LCc w e K c (w 1 3) v) ∧ ∀ t : Int, 0 ≤ t → t < w 5 3 → inb b t → TC w c t v) ∧ (¬ wi = -1 → WCc w wi v)
def UC (w : Wd) (e : Int) (K : Int → Int) (b wi n : Int) (v : Int → Int) : Prop := ∃ c : Int, (0 ≤ c ∧ c < n) ∧ VC w e c ∧ SC w e K c b wi v
/-- what the ladders' walks ask of the world besides -/
def LH (w : Wd) (e b wi : Int) : Prop := (∀ r : Int, 0 ≤ r → r < w 1 3 → ¬ fa w r 5 = -1 → fa w (fa w r 5) 4 ≤ fa w r 4) ∧ mra w (w 1 3) ≤ 3 ∧ (∀ t : Int, 0 ≤ t → t < w 5 3 → inb b t → fa w (tfa w t 1) 4 ≤ e ∧ (0 ≤ tfa w t 3 → fa w (tfa w t 3) 4 ≤ e)) ∧ (¬ wi = -1 → (0 ≤ wi ∧ wi < w 8 3) ∧ fa w (wfa w wi 1) 4 ≤ e ∧ fa w (wfa w wi 3) 4 ≤ e)
noncomputable def cnv (w : Wd) (e : Int) (v : Int → Int) (k : Int) : Int := if 0 ≤ k - 1 ∧ k - 1 < w 1 3 ∧ fa w (k - 1) 4 ≤ e then v (k - 1) else v 10
noncomputable def vnc (w : Wd) (e : Int) (v : Int → Int) (r : Int) : Int := if 0 ≤ r ∧ r < w 1 3 ∧ fa w r 4 ≤ e then v (r + 1) else v 0
theorem cnv_0 (w : Wd) (e : Int) (v : Int → Int) : cnv w e v 0 = v 10 := by unfold cnv; rw [if_neg (by omega)]
theorem cnv_r {w : Wd} {e r : Int} (v : Int → Int) (h0 : 0 ≤ r) (h1 : r < w 1 3) (h : fa w r 4 ≤ e) : cnv w e v (r + 1) = v r := by unfold cnv; rw [show r + 1 - 1 = r by omega, if_pos ⟨h0, h1, h⟩]
theorem vnc_r {w : Wd} {e r : Int} (v : Int → Int) (h0 : 0 ≤ r) (h1 : r < w 1 3) (h : fa w r 4 ≤ e) : vnc w e v r = v (r + 1) := by unfold vnc; rw [if_pos ⟨h0, h1, h⟩]
theorem vnc_10 {w : Wd} {e : Int} (v : Int → Int) (hn : w 1 3 ≤ 10) : vnc w e v 10 = v 0 := by unfold vnc; rw [if_neg (by omega)]
theorem cb_K {w : Wd} {s r : Int} (h : cntw w s r = 0 ∨ cntw w s r = 1) (r0 : 0 ≤ r) (r1 : r < w 1 3) : cb (cnS w s) r = cntw w s r := by
  unfold cb
  have e : inb (cnS w s) r ↔ cntw w s r = 1 := by
    unfold inb cnS
    rw [bsI_bit r0]
    exact ⟨fun q => q.2, fun q => ⟨r1, q⟩⟩
  rcases h with h | h
  · rw [bi_f (fun q => by have := e.mp q; omega), h]
  · rw [bi_t (e.mpr h), h]
/-- one of both readings -/
theorem rd_or {w : Wd} {K : Int → Int} {c p : Int} (hm : isMis (fa w p 1)) : (rdC w K c p = leaw w p (K p) ∨ rdC w K c p = mosw w p (K p)) ∧ leaw w p (K p) = min (fa w p 2 - K p) (othw w p (K p)) ∧ mosw w p (K p) = max (fa w p 2 - K p) (othw w p (K p)) := by
  have e1 : leaw w p (K p) = min (fa w p 2 - K p) (othw w p (K p)) := by
    have hm2 := hm
    unfold isMis at hm2
    unfold leaw
    rw [if_neg (by omega), if_neg (by omega), if_pos hm]
  have e2 : mosw w p (K p) = max (fa w p 2 - K p) (othw w p (K p)) := by
    have hm2 := hm
    unfold isMis at hm2
    unfold mosw
    rw [if_neg (by omega), if_pos hm]
  refine ⟨?_, e1, e2⟩
  rw [e1, e2]
  unfold rdC
  split <;> omega
theorem UC_L {w : Wd} {s e b wi n : Int} (hR : RI w) (hT : TI w) (hW : WI w) (hK : ∀ r : Int, 0 ≤ r → r < w 1 3 → cntw w s r = 0 ∨ cntw w s r = 1) (hc : 0 ≤ n ∧ n ≤ 72) (hL : LH w e b wi) {v : Int → Int} (h : UC w e (cntw w s) b wi n v) : LQ w s e b wi (cnv w e v) := by
  obtain ⟨c, c1, hV, ⟨⟨hF, hN, hC⟩, hB⟩, hw⟩ := h
  obtain ⟨l1, l2, l3, l4⟩ := hL
  have n10 := hR.1
  have z0 := cnv_0 w e v
  have pre : ∀ r : Int, 0 ≤ r → r < w 1 3 → bnd w e r → (0 ≤ fa w r 5 ∧ fa w r 5 < w 1 3 ∧ fa w (fa w r 5) 4 ≤ e) ∧ cnv w e v (r + 1) = v r ∧ cnv w e v (fa w r 5 + 1) = v (fa w r 5) ∧ shw w (cnS w s) r = leaw w (fa w r 5) (cntw w s (fa w r 5)) - lapw w r ∧ low w (cnS w s) r = mosw w (fa w r 5) (cntw w s (fa w r 5)) - lapw w r ∧ lsC w (cntw w s) c (fa w r 5) - lapw w r ≤ v r - v (fa w r 5) ∧ v r - v (fa w r 5) ≤ msC w (cntw w s) c (fa w r 5) - lapw w r := by
    intro r r0 r1 hb
    have ri := hR.2 r r0 r1
    have kn := hb.1.2.2
    have p0 := hb.2
    have m1 := l1 r r0 r1 p0
    have p1 : 0 ≤ fa w r 5 ∧ fa w r 5 < w 1 3 ∧ fa w (fa w r 5) 4 ≤ e := by omega
    have kk := cb_K (hK (fa w r 5) p1.1 p1.2.1) p1.1 p1.2.1
    refine ⟨p1, cnv_r v r0 r1 kn, cnv_r v p1.1 p1.2.1 p1.2.2, ?_, ?_, hC r r0 r1 kn p0⟩
    · unfold shw shl; rw [kk]
    · unfold low lol; rw [kk]
  refine ⟨⟨⟨⟨fun a a0 a1 => ?_, fun r r0 r1 hb => ?_⟩, fun t t0 t1 hb => ?_⟩, fun hwi => ?_⟩, fun r hr => ?_, fun t t0 t1 hb hs => ?_⟩
  · rw [z0]
    unfold cnv
    by_cases q : 0 ≤ a - 1 ∧ a - 1 < w 1 3 ∧ fa w (a - 1) 4 ≤ e
    · rw [if_pos q]; exact hN (a - 1) q.1 q.2.1 q.2.2
    · rw [if_neg q]; omega
  · obtain ⟨p1, e1, e2, e3, e4, b1, b2⟩ := pre r r0 r1 hb
    rw [e1, e2, e3, e4]
    unfold lsC at b1
    unfold msC at b2
    by_cases q : isMis (fa w (fa w r 5) 1)
    · rw [if_pos q] at b1 b2
      have y := rd_or (K := cntw w s) (c := c) q
      omega
    · rw [if_neg q] at b1 b2
      exact ⟨b1, b2⟩
  · have tt := hT.2 t t0 t1
    have kt := l3 t t0 t1 hb
    have y := hB t t0 t1 hb
    have ea := cnv_r v tt.2.2.1.1 tt.2.2.1.2 kt.1
    unfold tieC tsh begw
    unfold TC at y
    rcases y with y | y | y | y
    · have eb := cnv_r v (show 0 ≤ tfa w t 3 by omega) (show tfa w t 3 < w 1 3 by omega) (kt.2 (by omega))
      left; rw [ea, eb]; omega
    · right; left; exact y.1
    · right; right; left; rw [ea, z0]; omega
    · have eb := cnv_r v (show 0 ≤ tfa w t 3 by omega) (show tfa w t 3 < w 1 3 by omega) (kt.2 (by omega))
      right; right; right; rw [ea, eb]; omega
  · have y := hw hwi
    have k4 := l4 hwi
    have ww := hW.2 wi k4.1.1 k4.1.2
    have ea := cnv_r v ww.2.1.1 ww.2.1.2 k4.2.1
    have eb := cnv_r v ww.2.2.1 ww.2.2.2 k4.2.2
    unfold WCc at y
    unfold wisC wsh
    rw [ea, eb]; omega
  · obtain ⟨p1, e1, e2, e3, e4, b1, b2⟩ := pre r hr.1.1 hr.1.2 hr.2.1
    have q : isMis (fa w (fa w r 5) 1) := hr.2.2.1
    unfold lsC at b1
    unfold msC at b2
    rw [if_pos q] at b1 b2
    have y := rd_or (K := cntw w s) (c := c) q
    rw [e1, e2, e3, e4]
    omega
  · have tt := hT.2 t t0 t1
    have kt := l3 t t0 t1 hb
    have y := hB t t0 t1 hb
    have ea := cnv_r v tt.2.2.1.1 tt.2.2.1.2 kt.1
    have wR := whc_R (c := c) (by omega) w t
    unfold TC at y
    have y2 : tyr w t (whc w c t) - tfa w t 2 + 1 ≤ v (tfa w t 1) - v 10 ∧ v (tfa w t 1) - v 10 ≤ tyr w t (whc w c t) - tfa w t 2 + 1 := by
      rcases y with y | y | y | y
      · omega
      · exact y.2
      · omega
      · omega
    unfold skyC begw
    rw [ea, z0]
    rcases (show whc w c t = 0 ∨ whc w c t = 1 ∨ whc w c t = 2 by omega) with q | q | q
    · rw [q] at y2; left; omega
    · rw [q] at y2; right; left; omega
    · rw [q] at y2; right; right; omega
theorem sk_ex {w : Wd} {b : Int} {v : Int → Int} (k : Int) (h : ∀ t : Int, 0 ≤ t → t < w 5 3 → inb b t → tfa w t 0 = 1 → skyC w t v) : ∃ j : Int, (0 ≤ j ∧ j < 3) ∧ ∀ t : Int, 0 ≤ t → t < w 5 3 → inb b t → tfa w t 0 = 1 → ska w t = k → v (tfa w t 1 + 1) - v 0 = begw w t j := by
  by_cases q : ∃ t : Int, (0 ≤ t ∧ t < w 5 3) ∧ inb b t ∧ tfa w t 0 = 1 ∧ ska w t = k
  · obtain ⟨t, t1, hb, hs, hk⟩ := q
    have u : ∀ t' : Int, 0 ≤ t' → tfa w t' 0 = 1 → ska w t' = k → t' = t := fun t' a0 h1 h2 => cnq_in (P := fun t => tfa w t 0 = 1) a0 t1.1 h1 hs (by unfold ska at h2 hk; rw [h2, hk])
    rcases h t t1.1 t1.2 hb hs with y | y | y
    · exact ⟨0, by omega, fun t' a0 a1 _ h1 h2 => by rw [u t' a0 h1 h2]; exact y⟩
    · exact ⟨1, by omega, fun t' a0 a1 _ h1 h2 => by rw [u t' a0 h1 h2]; exact y⟩
    · exact ⟨2, by omega, fun t' a0 a1 _ h1 h2 => by rw [u t' a0 h1 h2]; exact y⟩
  · exact ⟨0, by omega, fun t' a0 a1 hb h1 h2 => absurd ⟨t', ⟨a0, a1⟩, hb, h1, h2⟩ q⟩
theorem in_8 {c q j : Int} (c0 : 0 ≤ c) (q0 : 0 ≤ q) (j0 : 0 ≤ j) (j1 : j < 3) : inb (c + 8 * q) j ↔ inb c j := by
  unfold inb
  rw [Nat.testBit_eq_decide_div_mod_eq, Nat.testBit_eq_decide_div_mod_eq, decide_eq_true_eq, decide_eq_true_eq]
  rcases (show j = 0 ∨ j = 1 ∨ j = 2 by omega) with rfl | rfl | rfl
  · simp; omega
  · simp; omega
  · simp; omega
theorem an_7 {c : Int} (c0 : 0 ≤ c) : anb c 7 = c % 8 := by
  unfold anb
  rw [show (7 : Int).toNat = 2 ^ 3 - 1 from rfl, Nat.and_two_pow_sub_one_eq_mod]
  omega
theorem L_UC {w : Wd} {s e b wi : Int} (hR : RI w) (hI : INJ w) (hT : TI w) (hW : WI w) (hS : ska w (w 5 3) ≤ 2) (hN : ∀ t : Int, 0 ≤ t → t < w 5 3 → (tfa w t 0 = 1 ∨ tfa w t 0 = 2) → tfa w t 3 = -1) (hK : ∀ r : Int, 0 ≤ r → r < w 1 3 → cntw w s r = 0 ∨ cntw w s r = 1) (hL : LH w e b wi) {v : Int → Int} (h : LQ w s e b wi v) : UC w e (cntw w s) b wi 72 (vnc w e v) := by
  obtain ⟨⟨⟨⟨hB, hC⟩, hTi⟩, hwi⟩, hF, hSk⟩ := h
  obtain ⟨l1, l2, l3, l4⟩ := hL
  have n10 := hR.1
  obtain ⟨j1, j1R, hj1⟩ := sk_ex 0 hSk
  obtain ⟨j2, j2R, hj2⟩ := sk_ex 1 hSk
  have MR := mra_R (w := w) (p := w 1 3) (n := 10) n10.1 n10.2
  let P : Int → Prop := fun j => ∃ r : Int, (0 ≤ r ∧ r < w 1 3) ∧ bnd w e r ∧ isMis (fa w (fa w r 5) 1) ∧ mra w (fa w r 5) = j ∧ v (r + 1) - v (fa w r 5 + 1) + lapw w r = othw w (fa w r 5) (cntw w s (fa w r 5)) ∧ ¬ v (r + 1) - v (fa w r 5 + 1) + lapw w r = fa w (fa w r 5) 2 - cntw w s (fa w r 5)
  have c0R := bsI_R P (i := mra w (w 1 3)) (mra w (w 1 3)).toNat (by omega)
  have c0b : ∀ j : Int, 0 ≤ j → (inb (bsI P (mra w (w 1 3))) j ↔ j < mra w (w 1 3) ∧ P j) := fun j j0 => bsI_bit j0
  have p8 : ((2 ^ (mra w (w 1 3)).toNat : Nat) : Int) ≤ 8 := by
    have : (2 : Nat) ^ (mra w (w 1 3)).toNat ≤ 2 ^ 3 := Nat.pow_le_pow_right (by omega) (by omega)
    generalize (2 : Nat) ^ (mra w (w 1 3)).toNat = p at this ⊢
    omega
  generalize hc0 : bsI P (mra w (w 1 3)) = c0 at c0R c0b
  have cR : 0 ≤ c0 ∧ c0 < 8 := by omega
  have mlt : ∀ p : Int, 0 ≤ p → p < w 1 3 → isMis (fa w p 1) → 0 ≤ mra w p ∧ mra w p < mra w (w 1 3) := fun p p0 p1 hm => ⟨(mra_R p0 (Int.le_refl p)).1, cnq_lt (P := fun r => isMis (fa w r 1)) p0 hm p1⟩
  have min' : ∀ p q : Int, 0 ≤ p → 0 ≤ q → isMis (fa w p 1) → isMis (fa w q 1) → mra w p = mra w q → p = q := fun p q p0 q0 hp hq e => cnq_in (P := fun r => isMis (fa w r 1)) p0 q0 hp hq e
  have ib : ∀ p : Int, 0 ≤ p → p < w 1 3 → isMis (fa w p 1) → (inb (c0 + 8 * (j1 + 3 * j2)) (mra w p) ↔ P (mra w p)) := by
    intro p p0 p1 hm
    have a := mlt p p0 p1 hm
    rw [in_8 cR.1 (by omega) a.1 (by omega), c0b _ a.1]
    exact ⟨fun q => q.2, fun q => ⟨a.2, q⟩⟩
  have d1 : (c0 + 8 * (j1 + 3 * j2)) / 8 % 3 = j1 := by omega
  have d2 : (c0 + 8 * (j1 + 3 * j2)) / 24 = j2 := by omega
  have v10 := vnc_10 (e := e) v n10.2
  refine ⟨c0 + 8 * (j1 + 3 * j2), by omega, ⟨fun r r0 r1 hm hb => ?_, ?_⟩, ⟨⟨fun x y x0 x1 y0 y1 => ?_, fun r r0 r1 hr => ?_, fun r r0 r1 hr hp => ?_⟩, fun t t0 t1 hb => ?_⟩, fun q => ?_⟩
  · obtain ⟨r', r1', hb', hm', he', _⟩ := (ib r r0 r1 hm).mp hb
    have ri := hR.2 r' r1'.1 r1'.2
    have pe := min' _ _ (by have := hb'.2; omega) r0 hm' hm he'
    have k := l1 r' r1'.1 r1'.2 hb'.2
    rw [pe] at k
    have := hb'.1.2.2
    omega
  · unfold vrs
    rw [an_7 (by omega), show (c0 + 8 * (j1 + 3 * j2)) % 8 = c0 by omega]
    have : c0.toNat < 2 ^ (mra w (w 1 3)).toNat := by omega
    rw [Nat.div_eq_of_lt this]
    rfl
  · have bd : ∀ x : Int, -2000 ≤ vnc w e v x - v 0 ∧ vnc w e v x - v 0 ≤ 2000 := by
      intro x
      unfold vnc
      by_cases q : 0 ≤ x ∧ x < w 1 3 ∧ fa w x 4 ≤ e
      · rw [if_pos q]; exact hB (x + 1) (by omega) (by omega)
      · rw [if_neg q]; omega
    have := bd x
    have := bd y
    omega
  · rw [v10, vnc_r v r0 r1 hr]
    exact hB (r + 1) (by omega) (by omega)
  · have ri := hR.2 r r0 r1
    have m1 := l1 r r0 r1 hp
    have hbn : bnd w e r := ⟨⟨r0, r1, hr⟩, hp⟩
    have p0 : 0 ≤ fa w r 5 := by omega
    have p1 : fa w r 5 < w 1 3 := by omega
    rw [vnc_r v r0 r1 hr, vnc_r v p0 p1 (by omega)]
    have y := hC r r0 r1 hbn
    have kk := cb_K (hK (fa w r 5) p0 p1) p0 p1
    have e3 : shw w (cnS w s) r = leaw w (fa w r 5) (cntw w s (fa w r 5)) - lapw w r := by unfold shw shl; rw [kk]
    have e4 : low w (cnS w s) r = mosw w (fa w r 5) (cntw w s (fa w r 5)) - lapw w r := by unfold low lol; rw [kk]
    rw [e3, e4] at y
    unfold lsC msC
    by_cases q : isMis (fa w (fa w r 5) 1)
    · rw [if_pos q, if_pos q]
      have z := rd_or (K := cntw w s) (c := c0 + 8 * (j1 + 3 * j2)) q
      have fk : v (r + 1) - v (fa w r 5 + 1) = leaw w (fa w r 5) (cntw w s (fa w r 5)) - lapw w r ∨ v (r + 1) - v (fa w r 5 + 1) = mosw w (fa w r 5) (cntw w s (fa w r 5)) - lapw w r := by
        by_cases x : shl w r (cb (cnS w s) (fa w r 5)) = lol w r (cb (cnS w s) (fa w r 5))
        · unfold shl lol at x; rw [kk] at x; omega
        · have g := hF r ⟨⟨r0, r1⟩, hbn, q, x⟩
          rw [e3, e4] at g; exact g
      have dd : rdC w (cntw w s) (c0 + 8 * (j1 + 3 * j2)) (fa w r 5) = v (r + 1) - v (fa w r 5 + 1) + lapw w r := by
        unfold rdC
        by_cases g : inb (c0 + 8 * (j1 + 3 * j2)) (mra w (fa w r 5))
        · rw [if_pos g]
          obtain ⟨r', r1', hb', hm', he', h1', h2'⟩ := (ib _ p0 p1 q).mp g
          have ri' := hR.2 r' r1'.1 r1'.2
          have pe := min' _ _ (by have := hb'.2; omega) p0 hm' q he'
          have re := hI r' r r1'.1 r1'.2 r0 r1 pe hb'.2
          rw [re] at h1'
          omega
        · rw [if_neg g]
          refine Classical.byContradiction (fun x => g ((ib _ p0 p1 q).mpr ⟨r, ⟨r0, r1⟩, hbn, q, rfl, ?_, fun y' => x y'.symm⟩))
          omega
      omega
    · rw [if_neg q, if_neg q]; exact y
  · have tt := hT.2 t t0 t1
    have kt := l3 t t0 t1 hb
    have y := hTi t t0 t1 hb
    have ea := vnc_r v tt.2.2.1.1 tt.2.2.1.2 kt.1
    have nn := hN t t0 t1
    have ba := hB (tfa w t 1 + 1) (by omega) (by omega)
    unfold tieC tsh begw at y
    unfold TC
    rcases (show tfa w t 0 = 0 ∨ tfa w t 0 = 1 ∨ tfa w t 0 = 2 ∨ tfa w t 0 = 3 by omega) with q | q | q | q
    · have eb := vnc_r v (show 0 ≤ tfa w t 3 by omega) (show tfa w t 3 < w 1 3 by omega) (kt.2 (by omega))
      left; rw [ea, eb]; omega
    · right; left
      rw [ea, v10]
      have sR := mra_R (w := w) (p := 0) (n := 0) (by omega) (by omega)
      have s1 := cnq_lt (P := fun t => tfa w t 0 = 1) t0 q t1
      have s2 := cnq_R (fun t => tfa w t 0 = 1) t.toNat
      have s3 : ska w t = 0 ∨ ska w t = 1 := by unfold ska at hS ⊢; omega
      unfold whc
      rcases s3 with s3 | s3
      · have g := hj1 t t0 t1 hb q s3
        rw [if_pos s3, d1]
        unfold begw at g
        omega
      · have g := hj2 t t0 t1 hb q s3
        rw [if_neg (by omega), d2]
        unfold begw at g
        omega
    · right; right; left; rw [ea, v10]; omega
    · have eb := vnc_r v (show 0 ≤ tfa w t 3 by omega) (show tfa w t 3 < w 1 3 by omega) (kt.2 (by omega))
      have bb := hB (tfa w t 3 + 1) (by omega) (by omega)
      right; right; right; rw [ea, eb]; omega
  · have y := hwi q
    have k4 := l4 q
    have ww := hW.2 wi k4.1.1 k4.1.2
    have ea := vnc_r v ww.2.1.1 ww.2.1.2 k4.2.1
    have eb := vnc_r v ww.2.2.1 ww.2.2.2 k4.2.2
    unfold wisC wsh at y
    unfold WCc
    rw [ea, eb]; omega

