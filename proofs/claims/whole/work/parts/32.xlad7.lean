def WI (w : Wd) : Prop := (0 ≤ w 8 3 ∧ w 8 3 ≤ 6) ∧ ∀ t : Int, 0 ≤ t → t < w 8 3 → smW w t ∧ (0 ≤ wfa w t 1 ∧ wfa w t 1 < w 1 3) ∧ (0 ≤ wfa w t 3 ∧ wfa w t 3 < w 1 3)
def skyC (w : Wd) (t : Int) (v : Int → Int) : Prop := v (tfa w t 1 + 1) - v 0 = begw w t 0 ∨ v (tfa w t 1 + 1) - v 0 = begw w t 1 ∨ v (tfa w t 1 + 1) - v 0 = begw w t 2
/-- lists, ties that are believed, the wish, as bounds -/
def CW (w : Wd) (e cn b wi : Int) (v : Int → Int) : Prop := CT w b (CL w e cn (w 1 3)) (w 5 3) v ∧ (¬ wi = -1 → wisC w wi v)
/-- a ladder -/
def Lad (w : Wd) (e cn b wi : Int) (v : Int → Int) : Prop := CW w e cn b wi v ∧ (∀ r : Int, isF w e cn r → v (r + 1) - v (fa w r 5 + 1) = shw w cn r ∨ v (r + 1) - v (fa w r 5 + 1) = low w cn r) ∧ ∀ t : Int, 0 ≤ t → t < w 5 3 → inb b t → tfa w t 0 = 1 → skyC w t v
def fdF (w u : Wd) : Prop := (∀ k, k ≠ 20 → k ≠ 23 → k ≠ 24 → k ≠ 25 → k ≠ 26 → k ≠ 30 → k ≠ 31 → u k = w k) ∧ ∀ i, i ≠ 15 → i ≠ 16 → i ≠ 17 → u 20 i = w 20 i
def SW (w : Wd) (C : (Int → Int) → Prop) (fs ss n : Int) (v : Int → Int) : Prop := ∃ k : Int, (0 ≤ k ∧ k < n) ∧ SY w (CF w k C (w 20 14)) fs ss v
theorem SW_s {w : Wd} {C : (Int → Int) → Prop} {fs ss n : Int} (h0 : 0 ≤ n) (v : Int → Int) : SW w C fs ss (n + 1) v ↔ SW w C fs ss n v ∨ SY w (CF w n C (w 20 14)) fs ss v := by
  constructor
  · rintro ⟨k, hk, q⟩
    by_cases e : k = n
    · rw [e] at q; exact Or.inr q
    · exact Or.inl ⟨k, by omega, q⟩
  · rintro (⟨k, hk, q⟩ | q)
    · exact ⟨k, by omega, q⟩
    · exact ⟨n, by omega, q⟩
theorem SW_0 {w : Wd} {C : (Int → Int) → Prop} {fs ss : Int} (v : Int → Int) : ¬ SW w C fs ss 0 v := fun ⟨k, hk, _⟩ => by omega
theorem sky_of {w : Wd} {b fs ss : Int} (hK : skI w b (w 5 3) fs ss) (v : Int → Int) : ((∃ a : Int, (0 ≤ a ∧ a < skN fs) ∧ v (skP w fs) - v 0 = skB w fs a) ∧ ∃ a : Int, (0 ≤ a ∧ a < skN ss) ∧ v (skP w ss) - v 0 = skB w ss a) ↔ ∀ t : Int, 0 ≤ t → t < w 5 3 → inb b t → tfa w t 0 = 1 → skyC w t v := by
  obtain ⟨h1, h2, h3, h4⟩ := hK
  have one : ∀ s : Int, ¬ s = -1 → ((∃ a : Int, (0 ≤ a ∧ a < skN s) ∧ v (skP w s) - v 0 = skB w s a) ↔ skyC w s v) := by
    intro s hs
    unfold skN skP skB skyC
    simp only [if_neg hs]
    constructor
    · rintro ⟨a, ⟨a0, a1⟩, q⟩
      rcases (show a = 0 ∨ a = 1 ∨ a = 2 by omega) with rfl | rfl | rfl
      · exact Or.inl q
      · exact Or.inr (Or.inl q)
      · exact Or.inr (Or.inr q)
    · rintro (q | q | q)
      · exact ⟨0, by omega, q⟩
      · exact ⟨1, by omega, q⟩
      · exact ⟨2, by omega, q⟩
  have no : ∀ s : Int, s = -1 → ∃ a : Int, (0 ≤ a ∧ a < skN s) ∧ v (skP w s) - v 0 = skB w s a := by
    intro s hs
    unfold skN skP skB
    simp only [if_pos hs]
    exact ⟨0, by omega, by omega⟩
  constructor
  · rintro ⟨q1, q2⟩ t t0 t1 hb hs
    rcases h4 t t0 t1 hb hs with rfl | rfl
    · exact (one t (by omega)).mp q1
    · exact (one t (by omega)).mp q2
  · intro q
    refine ⟨?_, ?_⟩
    · by_cases e : fs = -1
      · exact no fs e
      · have z := h2 e
        exact (one fs e).mpr (q fs z.1 z.2.1 z.2.2.1 z.2.2.2)
    · by_cases e : ss = -1
      · exact no ss e
      · have z := h3 e
        have y := h2 (by omega)
        exact (one ss e).mpr (q ss z.1 (by omega) z.2.2.1 z.2.2.2)
theorem SW_Lad {w : Wd} {e cn b wi fs ss : Int} (hL : FKS w w e cn (w 1 3)) (hK : skI w b (w 5 3) fs ss) (v : Int → Int) : SW w (CW w e cn b wi) fs ss ((2 ^ (w 20 14).toNat : Nat) : Int) v ↔ Lad w e cn b wi v := by
  obtain ⟨h1, h2, h3, h4⟩ := hL
  constructor
  · rintro ⟨k, hk, ⟨⟨hc, hf⟩, hs⟩⟩
    refine ⟨hc, fun r hr => ?_, (sky_of hK v).mp hs⟩
    obtain ⟨i, i1, i2⟩ := h4 r hr.1.2 hr
    have z := hf i i1.1 i1.2
    have y := h2 i i1.1 i1.2
    unfold FC at z
    rw [i2] at z y
    by_cases q : inb k i
    · rw [fval_t q, y.2.2] at z; exact Or.inr z
    · rw [fval_f q, y.2.1] at z; exact Or.inl z
  · rintro ⟨hc, hf, hs⟩
    have bb := bsI_R (fun i => v (w 27 i + 1) - v (fa w (w 27 i) 5 + 1) = w 29 i) (i := w 20 14) (w 20 14).toNat (by omega)
    refine ⟨bsI (fun i => v (w 27 i + 1) - v (fa w (w 27 i) 5 + 1) = w 29 i) (w 20 14), bb, ⟨hc, fun i i0 i1 => ?_⟩, (sky_of hK v).mpr hs⟩
    have y := h2 i i0 i1
    have z := hf _ y.1.1
    unfold FC
    by_cases q : v (w 27 i + 1) - v (fa w (w 27 i) 5 + 1) = w 29 i
    · rw [fval_t (by unfold inb; rw [bsI_bit i0]; exact ⟨i1, q⟩)]; exact q
    · rw [fval_f (by unfold inb; rw [bsI_bit i0]; exact fun k => q k.2)]
      rw [y.2.2] at q
      rcases z with z | z
      · rw [y.2.1]; exact z
      · exact absurd z q
theorem FOK_of {w : Wd} {e cn : Int} (hR : RI w) (h : FKS w w e cn (w 1 3)) : FOK w := by
  obtain ⟨h1, h2, h3, h4⟩ := h
  refine ⟨h1, fun i i0 i1 => ?_⟩
  have y := h2 i i0 i1
  have z := hR.2 _ y.1.1.1.1 y.1.1.1.2
  have nb := y.1.1.2.1.2
  have s := sh_R (c := cb cn (fa w (w 27 i) 5)) hR y.1.1.1.1 y.1.1.1.2 nb (cb_R _ _)
  have y1 := y.2.1
  have y2 := y.2.2
  unfold shw at y1
  unfold low at y2
  have q := y.1.1.1
  omega
theorem cell_wfa {w u : Wd} (h : u 9 = w 9) : wfa u = wfa w := by funext t f; unfold wfa; rw [rd_c h]
theorem cell_wis {w u : Wd} (h : u 9 = w 9) : wisC u = wisC w := by funext t v; unfold wisC wsh; rw [cell_wfa h]
theorem cell_smW {w u : Wd} (h : u 9 = w 9) {t : Int} (s : smW w t) : smW u t := by unfold smW; rw [cell_wfa h]; exact s
theorem cell_CT {w u : Wd} (h6 : u 6 = w 6) (h7 : u 7 = w 7) : CT u = CT w := by funext b C t v; unfold CT; rw [cell_tie h6 h7]
theorem cell_TI {w u : Wd} (h1 : u 1 = w 1) (h5 : u 5 = w 5) (h6 : u 6 = w 6) (h7 : u 7 = w 7) (h : TI w) : TI u := by
  unfold TI
  rw [h1, h5, cell_tfa h6]
  exact ⟨h.1, fun t a b => ⟨cell_smT h6 h7 (h.2 t a b).1, (h.2 t a b).2⟩⟩
theorem cell_SK2 {w u : Wd} (h5 : u 5 = w 5) (h6 : u 6 = w 6) (h : SK2 w) : SK2 u := by unfold SK2; rw [h5, cell_tfa h6]; exact h
theorem cell_skI {w u : Wd} (h6 : u 6 = w 6) : skI u = skI w := by funext b t fs ss; unfold skI; rw [cell_tfa h6]
theorem cell_CF {w u : Wd} (h2 : u 2 = w 2) (h27 : u 27 = w 27) (h28 : u 28 = w 28) (h29 : u 29 = w 29) : CF u = CF w := by
  funext k C n v
  unfold CF FC fval
  rw [cell_fa h2, h27, h28, h29]
theorem cell_SY {w u : Wd} (h6 : u 6 = w 6) (h7 : u 7 = w 7) : SY u = SY w := by funext C fs ss v; unfold SY; rw [cell_skP h6, cell_skB h6 h7]
theorem cell_FOK {w u : Wd} (h1 : u 1 = w 1) (h2 : u 2 = w 2) (h20 : u 20 14 = w 20 14) (h27 : u 27 = w 27) (h28 : u 28 = w 28) (h29 : u 29 = w 29) (h : FOK w) : FOK u := by unfold FOK; rw [h1, cell_fa h2, h20, h27, h28, h29]; exact h
theorem skO_of {w : Wd} {b fs ss : Int} (hT : TI w) (hK : skI w b (w 5 3) fs ss) : skO w fs ∧ skO w ss := by
  obtain ⟨h1, h2, h3, h4⟩ := hK
  have n8 := hT.1
  have one : ∀ s : Int, (¬ s = -1 → 0 ≤ s ∧ s < w 5 3) → skO w s := fun s hs => by
    refine ⟨?_, fun q => ?_⟩
    · by_cases q : s = -1
      · omega
      · have := hs q; omega
    · have z := hT.2 s (hs q).1 (hs q).2
      exact ⟨z.1, z.2.2.1⟩
  refine ⟨one fs (fun q => ⟨(h2 q).1, (h2 q).2.1⟩), one ss (fun q => ?_)⟩
  have z := h3 q
  have y := h2 (by omega)
  omega
theorem Acc_w {w w' u : Wd} {al : Int} {S : (Int → Int) → Prop} (h : w' 1 = w 1) : Acc w' u al S ↔ Acc w u al S := by unfold Acc; rw [h]
theorem skO_w {w u : Wd} (h1 : u 1 = w 1) (h6 : u 6 = w 6) (h7 : u 7 = w 7) {s : Int} (h : skO w s) : skO u s := by
  unfold skO
  rw [h1, cell_tfa h6]
  exact ⟨h.1, fun q => ⟨cell_smT h6 h7 (h.2 q).1, (h.2 q).2⟩⟩
def fdR (w : Wd) (e cn b wi al : Int) (u : Wd) : Prop := fdF w u ∧ u 20 17 = bi (∃ v, Lad w e cn b wi v) ∧ (al = 1 → (∃ v, Lad w e cn b wi v) → ∀ r : Int, 0 ≤ r → r < w 1 3 → isMn (Lad w e cn b wi) r (u 30 r) ∧ isMx (Lad w e cn b wi) r (u 31 r))
theorem p2_R {n : Int} (h : 0 ≤ n ∧ n ≤ 3) : 1 ≤ ((2 ^ n.toNat : Nat) : Int) ∧ ((2 ^ n.toNat : Nat) : Int) ≤ 8 := by
  rcases (show n = 0 ∨ n = 1 ∨ n = 2 ∨ n = 3 by omega) with rfl | rfl | rfl | rfl <;> decide

