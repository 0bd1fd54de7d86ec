/-! what a choice asks of years: v gives each point a year, 10 the year 0; K: how each reign counts -/
noncomputable def rdC (w : Wd) (K : Int → Int) (c p : Int) : Int := @ite _ (inb c (mra w p)) (Classical.propDecidable _) (othw w p (K p)) (fa w p 2 - K p)
noncomputable def lsC (w : Wd) (K : Int → Int) (c p : Int) : Int := @ite _ (isMis (fa w p 1)) (Classical.propDecidable _) (rdC w K c p) (leaw w p (K p))
noncomputable def msC (w : Wd) (K : Int → Int) (c p : Int) : Int := @ite _ (isMis (fa w p 1)) (Classical.propDecidable _) (rdC w K c p) (mosw w p (K p))
def FARc (v : Int → Int) : Prop := ∀ a b : Int, 0 ≤ a → a < 11 → 0 ≤ b → b < 11 → v b - v a ≤ 1000000
def KNc (w : Wd) (e n : Int) (v : Int → Int) : Prop := ∀ r : Int, 0 ≤ r → r < n → fa w r 4 ≤ e → -2000 ≤ v r - v 10 ∧ v r - v 10 ≤ 2000
def LCc (w : Wd) (e : Int) (K : Int → Int) (c n : Int) (v : Int → Int) : Prop := ∀ r : Int, 0 ≤ r → r < n → fa w r 4 ≤ e → ¬ fa w r 5 = -1 → lsC w K c (fa w r 5) - lapw w r ≤ v r - v (fa w r 5) ∧ v r - v (fa w r 5) ≤ msC w K c (fa w r 5) - lapw w r
def VCc (w : Wd) (e c n : Int) : Prop := ∀ r : Int, 0 ≤ r → r < n → isMis (fa w r 1) → inb c (mra w r) → fa w r 4 ≤ e
noncomputable def vrs (w : Wd) (c : Int) : Int := (((anb c 7).toNat / 2 ^ (mra w (w 1 3)).toNat : Nat) : Int)
def VC (w : Wd) (e c : Int) : Prop := VCc w e c (w 1 3) ∧ vrs w c = 0
theorem VCc_s {w : Wd} {e c i : Int} (i0 : 0 ≤ i) : VCc w e c (i + 1) ↔ VCc w e c i ∧ (isMis (fa w i 1) → inb c (mra w i) → fa w i 4 ≤ e) := by
  constructor
  · intro h
    exact ⟨fun r a b => h r a (by omega), h i i0 (by omega)⟩
  · rintro ⟨h, g⟩ r a b
    by_cases q : r = i
    · rw [q]; exact g
    · exact h r a (by omega)
def M0 (u : Wd) (n : Int) : Prop := ∀ j : Int, 0 ≤ j → j < n → u 19 j = if j % 12 = 0 then 0 else 1000000
theorem M0_s {u : Wd} {n z : Int} (h : M0 u n) (hz : z = if n % 12 = 0 then 0 else 1000000) : M0 (up u 19 n z) (n + 1) := by
  intro j j0 j1
  by_cases q : j = n
  · subst q; rw [up_self]; exact hz
  · rw [up_ne (by omega)]; exact h j j0 (by omega)
theorem M0_m {u : Wd} (h : M0 u 121) {a b : Int} (a0 : 0 ≤ a) (a1 : a < 11) (b0 : 0 ≤ b) (b1 : b < 11) : mm u a b = if a = b then 0 else 1000000 := by
  unfold mm
  rw [h (11 * a + b) (by omega) (by omega)]
  by_cases q : a = b
  · rw [if_pos q, if_pos (by omega)]
  · rw [if_neg q, if_neg (by omega)]
theorem M0_B {u : Wd} (h : M0 u 121) : MB (mm u) := by
  intro a b a0 a1 b0 b1
  rw [M0_m h a0 a1 b0 b1]
  by_cases q : a = b
  · rw [if_pos q]; exact ⟨by omega, fun _ => rfl⟩
  · rw [if_neg q]; exact ⟨by omega, fun y => absurd y q⟩
theorem M0_S {w u : Wd} {e : Int} (h : M0 u 121) (v : Int → Int) : Sat 11 (mm u) v ↔ FARc v ∧ KNc w e 0 v := by
  constructor
  · intro s
    refine ⟨fun a b a0 a1 b0 b1 => ?_, fun r r0 r1 => by omega⟩
    have q := s a b a0 a1 b0 b1
    rw [M0_m h a0 a1 b0 b1] at q
    split at q <;> omega
  · rintro ⟨f, _⟩ a b a0 a1 b0 b1
    have q := f a b a0 a1 b0 b1
    rw [M0_m h a0 a1 b0 b1]
    by_cases y : a = b
    · rw [if_pos y, y]; omega
    · rw [if_neg y]; exact q
theorem KN_n {w : Wd} {e i : Int} (hn : ¬ fa w i 4 ≤ e) (v : Int → Int) : KNc w e (i + 1) v ↔ KNc w e i v := by
  constructor
  · intro h r a b; exact h r a (by omega)
  · intro h r a b hr
    by_cases q : r = i
    · rw [q] at hr; exact absurd hr hn
    · exact h r a (by omega) hr
theorem KN_y {w : Wd} {e i : Int} (i0 : 0 ≤ i) (hn : fa w i 4 ≤ e) (v : Int → Int) : KNc w e (i + 1) v ↔ KNc w e i v ∧ -2000 ≤ v i - v 10 ∧ v i - v 10 ≤ 2000 := by
  constructor
  · intro h; exact ⟨fun r a b => h r a (by omega), h i i0 (by omega) hn⟩
  · rintro ⟨h, g⟩ r a b hr
    by_cases q : r = i
    · rw [q]; exact g
    · exact h r a (by omega) hr
theorem LC_n {w : Wd} {e c i : Int} {K : Int → Int} (hn : ¬ (fa w i 4 ≤ e ∧ ¬ fa w i 5 = -1)) (v : Int → Int) : LCc w e K c (i + 1) v ↔ LCc w e K c i v := by
  constructor
  · intro h r a b; exact h r a (by omega)
  · intro h r a b hr hp
    by_cases q : r = i
    · rw [q] at hr hp; exact absurd ⟨hr, hp⟩ hn
    · exact h r a (by omega) hr hp
theorem LC_y {w u : Wd} {e c i n l g : Int} {K : Int → Int} (hu : ∀ v, Sat 11 (mm u) v ↔ FARc v ∧ KNc w e n v ∧ LCc w e K c i v) (i0 : 0 ≤ i) (i1 : i < 10) (hk : fa w i 4 ≤ e) (hp : 0 ≤ fa w i 5 ∧ fa w i 5 < i) (hl : l = lsC w K c (fa w i 5) - lapw w i) (hg : g = msC w K c (fa w i 5) - lapw w i) (v : Int → Int) : Sat 11 (mm (bdw u (fa w i 5) i l g)) v ↔ FARc v ∧ KNc w e n v ∧ LCc w e K c (i + 1) v := by
  rw [bdw_S (by omega) (by omega) (by omega) (by omega) (by omega), hu v, hl, hg]
  constructor
  · rintro ⟨⟨a, b, d⟩, f⟩
    refine ⟨a, b, fun r r0 r1 hr hq => ?_⟩
    by_cases q : r = i
    · rw [q]; exact f
    · exact d r r0 (by omega) hr hq
  · rintro ⟨a, b, d⟩
    exact ⟨⟨a, b, fun r r0 r1 => d r r0 (by omega)⟩, d i i0 (by omega) hk (by omega)⟩
theorem rdC_R {w : Wd} {K : Int → Int} {c p : Int} (hs : smR w p) (hc : 0 ≤ K p ∧ K p ≤ 1) : -61 ≤ rdC w K c p ∧ rdC w K c p ≤ 61 := by
  obtain ⟨s0, s1, sf⟩ := hs
  have q2 := sf 2 (by omega) (by omega)
  have q3 := sf 3 (by omega) (by omega)
  unfold rdC othw
  (repeat' split) <;> omega

set_option maxRecDepth 100000 in
set_option maxHeartbeats 4000000 in
theorem c_X8_layChoice {B : Bs} {w m : Wd} {e c : Int} {K : Int → Int} (hM : RM w m) (hR : RI w) (he : 0 ≤ e ∧ e ≤ 9) (hc : 0 ≤ c ∧ c < 72) (hK : ∀ r : Int, 0 ≤ r → r < w 1 3 → m 20 r = K r ∧ (K r = 0 ∨ K r = 1)) : Sp (GM B) 3 yX8_layChoice cX8_layChoice 10 (Option.some FieldType.boolean) [.ref (ga (GM B) (0)), iv (e), iv (c)] m (pB (VC w e c) (fun u => c19 m u ∧ MB (mm u) ∧ ∀ v, Sat 11 (mm u) v ↔ FARc v ∧ KNc w e (w 1 3) v ∧ LCc w e K c (w 1 3) v)) := by
  refine Sp.of (by decide) (Nat.le_of_ble_eq_true rfl) (fun X F => ?_)
  have h3 := hR.1
  show Jw (GM B) X _ 0 [some (.ref (ga (GM B) (0))), some (iv (e)), some (iv (c))] [] m
  have L172 : ∀ (fuel : Nat) (x : Wd) (i : Int) (y : Int), (w 1 3 - i).toNat < fuel → (0 ≤ i ∧ i ≤ w 1 3) → (c19 m x) → ((y = 1 ∧ VC w e c) ∨ (y = 0 ∧ ¬ VC w e c)) → (MB (mm x)) → (∀ v, Sat 11 (mm x) v ↔ FARc v ∧ KNc w e (w 1 3) v ∧ LCc w e K c i v) → Jw (GM B) X (pB (VC w e c) (fun u => c19 m u ∧ MB (mm u) ∧ ∀ v, Sat 11 (mm u) v ↔ FARc v ∧ KNc w e (w 1 3) v ∧ LCc w e K c (w 1 3) v)) 172 [some (.ref (ga (GM B) 0)), some (iv e), some (iv c), none, some (iv y), some (iv i)] [] x := by
    intro fuel
    induction fuel with
    | zero => intro x i y hfuel; exact absurd hfuel (Nat.not_lt_zero _)
    | succ fuel ih172 =>
        intro x i y hfuel i0 hx hy hb hv
        have hMx : RM w x := c19_RM hx hM
        have x20 : x 20 = m 20 := hx 20 (by decide)
        refine jr_iload F dX8_layChoice_172 rfl ?_
        refine jr_aload_n F dX8_layChoice_174 rfl ?_
        refine jr_getIx F (w 1 3) dX8_layChoice_175 fg_X8_84 (Nat.le_of_ble_eq_true rfl) rfl rfl ((show x 0 0 = (w 1 3) from rn0 hMx)) (fun q175 => ?_)
        refine jr_icmp_ge (tgt := 348) F dX8_layChoice_178 (by decide) (fun c178 => ?_) (fun c178 => ?_) (by omega) (by omega)
        · skip
          refine jr_iload F dX8_layChoice_348 rfl ?_
          obtain rfl : i = w 1 3 := by omega
          rcases hy with ⟨y1, y2⟩ | ⟨y1, y2⟩
          · exact jr_zret F dX8_layChoice_350 (pB_of (by rw [y1, bi_t y2]) ⟨hx, hb, hv⟩) (by omega)
          · exact jr_zret F dX8_layChoice_350 (pB_of (by rw [y1, bi_f y2]) ⟨hx, hb, hv⟩) (by omega)
        · skip
          have ri := hR.2 i i0.1 (by omega)
          refine jr_aload_n F dX8_layChoice_181 rfl ?_
          refine jr_getR (t := 6) F dX8_layChoice_182 fg_X8_25 (Nat.le_of_ble_eq_true rfl) rfl rfl ?_
          refine jr_iload F dX8_layChoice_185 rfl ?_
          refine jr_iald F dX8_layChoice_187 (Nat.le_of_ble_eq_true rfl) rfl (by omega) (fun q187 => ?_) (by omega) (by omega)
          have v187 : x 6 (i) = (fa w i 5) := (rmf5 hMx (r := i) (by omega) (by omega))
          rw [v187] at q187
          refine jr_ti v187 ?_
          refine jr_istore F dX8_layChoice_188 (Nat.le_of_ble_eq_true rfl) rfl ?_
          refine jr_iload F dX8_layChoice_190 rfl ?_
          refine jr_iconst F dX8_layChoice_192 ?_
          refine jr_icmp_eq (tgt := 342) F dX8_layChoice_193 (by decide) (fun c193 => ?_) (fun c193 => ?_) (by omega) (by omega)
          · skip
            refine jr_iinc F dX8_layChoice_342 rfl (Nat.le_of_ble_eq_true rfl) rfl ?_
            refine jr_goto (tgt := 172) F dX8_layChoice_345 (by decide) ?_
            first | exact jr_sub (ih172 _ (i + 1) _ (by omega) (by omega) hx hy hb (fun v => by rw [hv v, LC_n (by omega)])) ⟨rfl, rfl, rfl, rfl, rfl, trivial⟩ | exact jr_sub (ih172 _ (i + 1) _ (by omega) (by omega) (by subst e339; exact c19_t hx (bdw_c _ _ _ _ _)) hy (by subst e339; exact bdw_B (by omega) (by omega) (by omega) (by omega) (by omega) (by omega) (by omega) hb) (by subst e339; exact LC_y hv i0.1 (by omega) c203 (by omega) (by unfold lsC rdC lapw; (repeat' split) <;> first | contradiction | omega | (exfalso; omega) | exact absurd (cb1.mp (by omega)) (by assumption) | exact absurd (cb1.mpr (by assumption)) (by omega)) (by unfold msC rdC lapw; (repeat' split) <;> first | contradiction | omega | (exfalso; omega) | exact absurd (cb1.mp (by omega)) (by assumption) | exact absurd (cb1.mpr (by assumption)) (by omega)))) ⟨rfl, rfl, rfl, rfl, rfl, trivial⟩
          · skip
            refine jr_aload_n F dX8_layChoice_196 rfl ?_
            refine jr_iload F dX8_layChoice_197 rfl ?_
            refine jr_iload_n F dX8_layChoice_199 rfl ?_
            refine jr_vI F dX8_layChoice_200 cv_X8_188 (c_X8_isKnown hMx (by omega) (by omega)) (Nat.le_of_ble_eq_true rfl) rfl rfl rfl rfl (Nat.le_of_ble_eq_true rfl) (Nat.le_of_ble_eq_true rfl) rfl (Nat.le_of_ble_eq_true rfl) ?_
            refine jr_ifeq_b (tgt := 342) F dX8_layChoice_203 (by decide) (fun c203 => ?_) (fun c203 => ?_)
            · skip
              refine jr_iinc F dX8_layChoice_342 rfl (Nat.le_of_ble_eq_true rfl) rfl ?_
              refine jr_goto (tgt := 172) F dX8_layChoice_345 (by decide) ?_
              first | exact jr_sub (ih172 _ (i + 1) _ (by omega) (by omega) hx hy hb (fun v => by rw [hv v, LC_n (by omega)])) ⟨rfl, rfl, rfl, rfl, rfl, trivial⟩ | exact jr_sub (ih172 _ (i + 1) _ (by omega) (by omega) (by subst e339; exact c19_t hx (bdw_c _ _ _ _ _)) hy (by subst e339; exact bdw_B (by omega) (by omega) (by omega) (by omega) (by omega) (by omega) (by omega) hb) (by subst e339; exact LC_y hv i0.1 (by omega) c203 (by omega) (by unfold lsC rdC lapw; (repeat' split) <;> first | contradiction | omega | (exfalso; omega) | exact absurd (cb1.mp (by omega)) (by assumption) | exact absurd (cb1.mpr (by assumption)) (by omega)) (by unfold msC rdC lapw; (repeat' split) <;> first | contradiction | omega | (exfalso; omega) | exact absurd (cb1.mp (by omega)) (by assumption) | exact absurd (cb1.mpr (by assumption)) (by omega)))) ⟨rfl, rfl, rfl, rfl, rfl, trivial⟩
            · skip
              have rp := hR.2 (fa w i 5) (by omega) (by omega)
              have kk : 0 ≤ K (fa w i 5) ∧ K (fa w i 5) ≤ 1 := by have := (hK (fa w i 5) (by omega) (by omega)).2; omega
              have l1 := lea_R rp.1 kk
              have l2 := mos_R rp.1 kk
              have l3 := ri.1.2.2 3 (by omega) (by omega)
              have l4 := rp.1.2.2 2 (by omega) (by omega)
              have l5 := rp.1.2.2 3 (by omega) (by omega)
              refine jr_aload_n F dX8_layChoice_206 rfl ?_
              refine jr_getR (t := 2) F dX8_layChoice_207 fg_X8_13 (Nat.le_of_ble_eq_true rfl) rfl rfl ?_
              refine jr_iload F dX8_layChoice_210 rfl ?_
              refine jr_iald F dX8_layChoice_212 (Nat.le_of_ble_eq_true rfl) rfl (by omega) (fun q212 => ?_) (by omega) (by omega)
              have v212 : x 2 (i) = (fa w i 1) := (rmf1 hMx (r := i) (by omega) (by omega))
              rw [v212] at q212
              refine jr_ti v212 ?_
              refine jr_iconst F dX8_layChoice_213 ?_
              refine jr_icmp_ne (tgt := 227) F dX8_layChoice_214 (by decide) (fun c214 => ?_) (fun c214 => ?_) (by omega) (by omega)
              · skip
                refine jr_iconst F dX8_layChoice_227 ?_
                refine jr_istore F dX8_layChoice_228 (Nat.le_of_ble_eq_true rfl) rfl ?_
                have oR : -61 ≤ othw w (fa w i 5) (K (fa w i 5)) ∧ othw w (fa w i 5) (K (fa w i 5)) ≤ 61 := by unfold othw; split <;> omega
                refine jr_aload_n F dX8_layChoice_230 rfl ?_
                refine jr_iload F dX8_layChoice_231 rfl ?_
                refine jr_aload_n F dX8_layChoice_233 rfl ?_
                refine jr_getR (t := 20) F dX8_layChoice_234 fg_X8_69 (Nat.le_of_ble_eq_true rfl) rfl rfl ?_
                refine jr_iload F dX8_layChoice_237 rfl ?_
                refine jr_iald F dX8_layChoice_239 (Nat.le_of_ble_eq_true rfl) rfl (by omega) (fun q239 => ?_) (by omega) (by omega)
                refine jr_ti (b := (K (fa w i 5))) (by rw [x20]; exact (hK _ (by omega) (by omega)).1) ?_
                refine jr_vI F dX8_layChoice_240 cv_X8_116 (c_X8_leastOf hMx rp.1 kk) (Nat.le_of_ble_eq_true rfl) rfl rfl rfl rfl (Nat.le_of_ble_eq_true rfl) (Nat.le_of_ble_eq_true rfl) rfl (Nat.le_of_ble_eq_true rfl) ?_
                refine jr_istore F dX8_layChoice_243 (Nat.le_of_ble_eq_true rfl) rfl ?_
                refine jr_aload_n F dX8_layChoice_245 rfl ?_
                refine jr_iload F dX8_layChoice_246 rfl ?_
                refine jr_aload_n F dX8_layChoice_248 rfl ?_
                refine jr_getR (t := 20) F dX8_layChoice_249 fg_X8_69 (Nat.le_of_ble_eq_true rfl) rfl rfl ?_
                refine jr_iload F dX8_layChoice_252 rfl ?_
                refine jr_iald F dX8_layChoice_254 (Nat.le_of_ble_eq_true rfl) rfl (by omega) (fun q254 => ?_) (by omega) (by omega)
                refine jr_ti (b := (K (fa w i 5))) (by rw [x20]; exact (hK _ (by omega) (by omega)).1) ?_
                refine jr_vI F dX8_layChoice_255 cv_X8_113 (c_X8_mostOf hMx rp.1 kk) (Nat.le_of_ble_eq_true rfl) rfl rfl rfl rfl (Nat.le_of_ble_eq_true rfl) (Nat.le_of_ble_eq_true rfl) rfl (Nat.le_of_ble_eq_true rfl) ?_
                refine jr_istore F dX8_layChoice_258 (Nat.le_of_ble_eq_true rfl) rfl ?_
                refine jr_aload_n F dX8_layChoice_260 rfl ?_
                refine jr_getR (t := 2) F dX8_layChoice_261 fg_X8_13 (Nat.le_of_ble_eq_true rfl) rfl rfl ?_
                refine jr_iload F dX8_layChoice_264 rfl ?_
                refine jr_iald F dX8_layChoice_266 (Nat.le_of_ble_eq_true rfl) rfl (by omega) (fun q266 => ?_) (by omega) (by omega)
                have v266 : x 2 ((fa w i 5)) = (fa w (fa w i 5) 1) := (rmf1 hMx (r := (fa w i 5)) (by omega) (by omega))
                rw [v266] at q266
                refine jr_ti v266 ?_
                refine jr_sI F dX8_layChoice_267 cs_X8_100 (c_X8_isMisread (by omega)) rfl (Nat.le_of_ble_eq_true rfl) (Nat.le_of_ble_eq_true rfl) rfl (Nat.le_of_ble_eq_true rfl) ?_
                refine jr_ifeq_b (tgt := 324) F dX8_layChoice_270 (by decide) (fun c270 => ?_) (fun c270 => ?_)
                · skip
                  refine jr_aload_n F dX8_layChoice_324 rfl ?_
                  refine jr_iload F dX8_layChoice_325 rfl ?_
                  refine jr_iload F dX8_layChoice_327 rfl ?_
                  refine jr_iload F dX8_layChoice_329 rfl ?_
                  refine jr_iload F dX8_layChoice_331 rfl ?_
                  refine jr_isub F dX8_layChoice_333 ?_
                  refine jr_iload F dX8_layChoice_334 rfl ?_
                  refine jr_iload F dX8_layChoice_336 rfl ?_
                  refine jr_isub F dX8_layChoice_338 ?_
                  refine jr_vVx F dX8_layChoice_339 cv_X8_193 (c_X8_bind (by omega) (by omega) (by omega) (by omega)) (Nat.le_of_ble_eq_true rfl) rfl rfl rfl rfl (Nat.le_of_ble_eq_true rfl) (Nat.le_of_ble_eq_true rfl) rfl (Nat.le_of_ble_eq_true rfl) (fun w339 e339 => ?_)
                  refine jr_iinc F dX8_layChoice_342 rfl (Nat.le_of_ble_eq_true rfl) rfl ?_
                  refine jr_goto (tgt := 172) F dX8_layChoice_345 (by decide) ?_
                  first | exact jr_sub (ih172 _ (i + 1) _ (by omega) (by omega) hx hy hb (fun v => by rw [hv v, LC_n (by omega)])) ⟨rfl, rfl, rfl, rfl, rfl, trivial⟩ | exact jr_sub (ih172 _ (i + 1) _ (by omega) (by omega) (by subst e339; exact c19_t hx (bdw_c _ _ _ _ _)) hy (by subst e339; exact bdw_B (by omega) (by omega) (by omega) (by omega) (by omega) (by omega) (by omega) hb) (by subst e339; exact LC_y hv i0.1 (by omega) c203 (by omega) (by unfold lsC rdC lapw; (repeat' split) <;> first | contradiction | omega | (exfalso; omega) | exact absurd (cb1.mp (by omega)) (by assumption) | exact absurd (cb1.mpr (by assumption)) (by omega)) (by unfold msC rdC lapw; (repeat' split) <;> first | contradiction | omega | (exfalso; omega) | exact absurd (cb1.mp (by omega)) (by assumption) | exact absurd (cb1.mpr (by assumption)) (by omega)))) ⟨rfl, rfl, rfl, rfl, rfl, trivial⟩
                · skip
                  refine jr_iload_n F dX8_layChoice_273 rfl ?_
                  refine jr_aload_n F dX8_layChoice_274 rfl ?_
                  refine jr_iload F dX8_layChoice_275 rfl ?_
                  refine jr_vI F dX8_layChoice_277 cv_X8_197 (c_X8_misreadAhead hMx h3 (by omega)) (Nat.le_of_ble_eq_true rfl) rfl rfl rfl rfl (Nat.le_of_ble_eq_true rfl) (Nat.le_of_ble_eq_true rfl) rfl (Nat.le_of_ble_eq_true rfl) ?_
                  have mR := mra_R (w := w) (p := fa w i 5) (by omega) (show fa w i 5 ≤ 10 by omega)
                  refine jr_ishr F dX8_layChoice_280 ?_
                  refine jr_iconst F dX8_layChoice_281 ?_
                  refine jr_iand F dX8_layChoice_282 ?_
                  refine jr_top (z := (cb c (mra w (fa w i 5)))) F (b_bit (by omega) (by omega)) ?_
                  have cR := cb_R c (mra w (fa w i 5))
                  have cb1 : cb c (mra w (fa w i 5)) = 1 ↔ inb c (mra w (fa w i 5)) := bi_eq1
                  refine jr_iconst F dX8_layChoice_283 ?_
                  refine jr_icmp_ne (tgt := 303) F dX8_layChoice_284 (by decide) (fun c284 => ?_) (fun c284 => ?_) (by omega) (by omega)
                  · skip
                    refine jr_aload_n F dX8_layChoice_303 rfl ?_
                    refine jr_getR (t := 3) F dX8_layChoice_304 fg_X8_16 (Nat.le_of_ble_eq_true rfl) rfl rfl ?_
                    refine jr_iload F dX8_layChoice_307 rfl ?_
                    refine jr_iald F dX8_layChoice_309 (Nat.le_of_ble_eq_true rfl) rfl (by omega) (fun q309 => ?_) (by omega) (by omega)
                    have v309 : x 3 ((fa w i 5)) = (fa w (fa w i 5) 2) := (rmf2 hMx (r := (fa w i 5)) (by omega) (by omega))
                    rw [v309] at q309
                    refine jr_ti v309 ?_
                    refine jr_aload_n F dX8_layChoice_310 rfl ?_
                    refine jr_getR (t := 20) F dX8_layChoice_311 fg_X8_69 (Nat.le_of_ble_eq_true rfl) rfl rfl ?_
                    refine jr_iload F dX8_layChoice_314 rfl ?_
                    refine jr_iald F dX8_layChoice_316 (Nat.le_of_ble_eq_true rfl) rfl (by omega) (fun q316 => ?_) (by omega) (by omega)
                    refine jr_ti (b := (K (fa w i 5))) (by rw [x20]; exact (hK _ (by omega) (by omega)).1) ?_
                    refine jr_isub F dX8_layChoice_317 ?_
                    refine jr_istore F dX8_layChoice_318 (Nat.le_of_ble_eq_true rfl) rfl ?_
                    refine jr_iload F dX8_layChoice_320 rfl ?_
                    refine jr_istore F dX8_layChoice_322 (Nat.le_of_ble_eq_true rfl) rfl ?_
                    refine jr_aload_n F dX8_layChoice_324 rfl ?_
                    refine jr_iload F dX8_layChoice_325 rfl ?_
                    refine jr_iload F dX8_layChoice_327 rfl ?_
                    refine jr_iload F dX8_layChoice_329 rfl ?_
                    refine jr_iload F dX8_layChoice_331 rfl ?_
                    refine jr_isub F dX8_layChoice_333 ?_
                    refine jr_iload F dX8_layChoice_334 rfl ?_
                    refine jr_iload F dX8_layChoice_336 rfl ?_
                    refine jr_isub F dX8_layChoice_338 ?_
                    refine jr_vVx F dX8_layChoice_339 cv_X8_193 (c_X8_bind (by omega) (by omega) (by omega) (by omega)) (Nat.le_of_ble_eq_true rfl) rfl rfl rfl rfl (Nat.le_of_ble_eq_true rfl) (Nat.le_of_ble_eq_true rfl) rfl (Nat.le_of_ble_eq_true rfl) (fun w339_1 e339_1 => ?_)
                    refine jr_iinc F dX8_layChoice_342 rfl (Nat.le_of_ble_eq_true rfl) rfl ?_
                    refine jr_goto (tgt := 172) F dX8_layChoice_345 (by decide) ?_
                    first | exact jr_sub (ih172 _ (i + 1) _ (by omega) (by omega) hx hy hb (fun v => by rw [hv v, LC_n (by omega)])) ⟨rfl, rfl, rfl, rfl, rfl, trivial⟩ | exact jr_sub (ih172 _ (i + 1) _ (by omega) (by omega) (by subst e339_1; exact c19_t hx (bdw_c _ _ _ _ _)) hy (by subst e339_1; exact bdw_B (by omega) (by omega) (by omega) (by omega) (by omega) (by omega) (by omega) hb) (by subst e339_1; exact LC_y hv i0.1 (by omega) c203 (by omega) (by unfold lsC rdC lapw; (repeat' split) <;> first | contradiction | omega | (exfalso; omega) | exact absurd (cb1.mp (by omega)) (by assumption) | exact absurd (cb1.mpr (by assumption)) (by omega)) (by unfold msC rdC lapw; (repeat' split) <;> first | contradiction | omega | (exfalso; omega) | exact absurd (cb1.mp (by omega)) (by assumption) | exact absurd (cb1.mpr (by assumption)) (by omega)))) ⟨rfl, rfl, rfl, rfl, rfl, trivial⟩
                  · skip
                    refine jr_aload_n F dX8_layChoice_287 rfl ?_
                    refine jr_iload F dX8_layChoice_288 rfl ?_
                    refine jr_aload_n F dX8_layChoice_290 rfl ?_
                    refine jr_getR (t := 20) F dX8_layChoice_291 fg_X8_69 (Nat.le_of_ble_eq_true rfl) rfl rfl ?_
                    refine jr_iload F dX8_layChoice_294 rfl ?_
                    refine jr_iald F dX8_layChoice_296 (Nat.le_of_ble_eq_true rfl) rfl (by omega) (fun q296 => ?_) (by omega) (by omega)
                    refine jr_ti (b := (K (fa w i 5))) (by rw [x20]; exact (hK _ (by omega) (by omega)).1) ?_
                    refine jr_vI F dX8_layChoice_297 cv_X8_110 (c_X8_otherLength hMx rp.1 kk) (Nat.le_of_ble_eq_true rfl) rfl rfl rfl rfl (Nat.le_of_ble_eq_true rfl) (Nat.le_of_ble_eq_true rfl) rfl (Nat.le_of_ble_eq_true rfl) ?_
                    refine jr_goto (tgt := 318) F dX8_layChoice_300 (by decide) ?_
                    refine jr_istore F dX8_layChoice_318 (Nat.le_of_ble_eq_true rfl) rfl ?_
                    refine jr_iload F dX8_layChoice_320 rfl ?_
                    refine jr_istore F dX8_layChoice_322 (Nat.le_of_ble_eq_true rfl) rfl ?_
                    refine jr_aload_n F dX8_layChoice_324 rfl ?_
                    refine jr_iload F dX8_layChoice_325 rfl ?_
                    refine jr_iload F dX8_layChoice_327 rfl ?_
                    refine jr_iload F dX8_layChoice_329 rfl ?_
                    refine jr_iload F dX8_layChoice_331 rfl ?_
                    refine jr_isub F dX8_layChoice_333 ?_
                    refine jr_iload F dX8_layChoice_334 rfl ?_
                    refine jr_iload F dX8_layChoice_336 rfl ?_
                    refine jr_isub F dX8_layChoice_338 ?_
                    refine jr_vVx F dX8_layChoice_339 cv_X8_193 (c_X8_bind (by omega) (by omega) (by omega) (by omega)) (Nat.le_of_ble_eq_true rfl) rfl rfl rfl rfl (Nat.le_of_ble_eq_true rfl) (Nat.le_of_ble_eq_true rfl) rfl (Nat.le_of_ble_eq_true rfl) (fun w339_2 e339_2 => ?_)
                    refine jr_iinc F dX8_layChoice_342 rfl (Nat.le_of_ble_eq_true rfl) rfl ?_
                    refine jr_goto (tgt := 172) F dX8_layChoice_345 (by decide) ?_
                    first | exact jr_sub (ih172 _ (i + 1) _ (by omega) (by omega) hx hy hb (fun v => by rw [hv v, LC_n (by omega)])) ⟨rfl, rfl, rfl, rfl, rfl, trivial⟩ | exact jr_sub (ih172 _ (i + 1) _ (by omega) (by omega) (by subst e339_2; exact c19_t hx (bdw_c _ _ _ _ _)) hy (by subst e339_2; exact bdw_B (by omega) (by omega) (by omega) (by omega) (by omega) (by omega) (by omega) hb) (by subst e339_2; exact LC_y hv i0.1 (by omega) c203 (by omega) (by unfold lsC rdC lapw; (repeat' split) <;> first | contradiction | omega | (exfalso; omega) | exact absurd (cb1.mp (by omega)) (by assumption) | exact absurd (cb1.mpr (by assumption)) (by omega)) (by unfold msC rdC lapw; (repeat' split) <;> first | contradiction | omega | (exfalso; omega) | exact absurd (cb1.mp (by omega)) (by assumption) | exact absurd (cb1.mpr (by assumption)) (by omega)))) ⟨rfl, rfl, rfl, rfl, rfl, trivial⟩
              · skip
                refine jr_aload_n F dX8_layChoice_217 rfl ?_
                refine jr_getR (t := 4) F dX8_layChoice_218 fg_X8_19 (Nat.le_of_ble_eq_true rfl) rfl rfl ?_
                refine jr_iload F dX8_layChoice_221 rfl ?_
                refine jr_iald F dX8_layChoice_223 (Nat.le_of_ble_eq_true rfl) rfl (by omega) (fun q223 => ?_) (by omega) (by omega)
                have v223 : x 4 (i) = (fa w i 3) := (rmf3 hMx (r := i) (by omega) (by omega))
                rw [v223] at q223
                refine jr_ti v223 ?_
                refine jr_goto (tgt := 228) F dX8_layChoice_224 (by decide) ?_
                refine jr_istore F dX8_layChoice_228 (Nat.le_of_ble_eq_true rfl) rfl ?_
                have oR : -61 ≤ othw w (fa w i 5) (K (fa w i 5)) ∧ othw w (fa w i 5) (K (fa w i 5)) ≤ 61 := by unfold othw; split <;> omega
                refine jr_aload_n F dX8_layChoice_230 rfl ?_
                refine jr_iload F dX8_layChoice_231 rfl ?_
                refine jr_aload_n F dX8_layChoice_233 rfl ?_
                refine jr_getR (t := 20) F dX8_layChoice_234 fg_X8_69 (Nat.le_of_ble_eq_true rfl) rfl rfl ?_
                refine jr_iload F dX8_layChoice_237 rfl ?_
                refine jr_iald F dX8_layChoice_239 (Nat.le_of_ble_eq_true rfl) rfl (by omega) (fun q239 => ?_) (by omega) (by omega)
                refine jr_ti (b := (K (fa w i 5))) (by rw [x20]; exact (hK _ (by omega) (by omega)).1) ?_
                refine jr_vI F dX8_layChoice_240 cv_X8_116 (c_X8_leastOf hMx rp.1 kk) (Nat.le_of_ble_eq_true rfl) rfl rfl rfl rfl (Nat.le_of_ble_eq_true rfl) (Nat.le_of_ble_eq_true rfl) rfl (Nat.le_of_ble_eq_true rfl) ?_
                refine jr_istore F dX8_layChoice_243 (Nat.le_of_ble_eq_true rfl) rfl ?_
                refine jr_aload_n F dX8_layChoice_245 rfl ?_
                refine jr_iload F dX8_layChoice_246 rfl ?_
                refine jr_aload_n F dX8_layChoice_248 rfl ?_
                refine jr_getR (t := 20) F dX8_layChoice_249 fg_X8_69 (Nat.le_of_ble_eq_true rfl) rfl rfl ?_
                refine jr_iload F dX8_layChoice_252 rfl ?_
                refine jr_iald F dX8_layChoice_254 (Nat.le_of_ble_eq_true rfl) rfl (by omega) (fun q254 => ?_) (by omega) (by omega)
                refine jr_ti (b := (K (fa w i 5))) (by rw [x20]; exact (hK _ (by omega) (by omega)).1) ?_
                refine jr_vI F dX8_layChoice_255 cv_X8_113 (c_X8_mostOf hMx rp.1 kk) (Nat.le_of_ble_eq_true rfl) rfl rfl rfl rfl (Nat.le_of_ble_eq_true rfl) (Nat.le_of_ble_eq_true rfl) rfl (Nat.le_of_ble_eq_true rfl) ?_
                refine jr_istore F dX8_layChoice_258 (Nat.le_of_ble_eq_true rfl) rfl ?_
                refine jr_aload_n F dX8_layChoice_260 rfl ?_
                refine jr_getR (t := 2) F dX8_layChoice_261 fg_X8_13 (Nat.le_of_ble_eq_true rfl) rfl rfl ?_
                refine jr_iload F dX8_layChoice_264 rfl ?_
                refine jr_iald F dX8_layChoice_266 (Nat.le_of_ble_eq_true rfl) rfl (by omega) (fun q266 => ?_) (by omega) (by omega)
                have v266 : x 2 ((fa w i 5)) = (fa w (fa w i 5) 1) := (rmf1 hMx (r := (fa w i 5)) (by omega) (by omega))
                rw [v266] at q266
                refine jr_ti v266 ?_
                refine jr_sI F dX8_layChoice_267 cs_X8_100 (c_X8_isMisread (by omega)) rfl (Nat.le_of_ble_eq_true rfl) (Nat.le_of_ble_eq_true rfl) rfl (Nat.le_of_ble_eq_true rfl) ?_
                refine jr_ifeq_b (tgt := 324) F dX8_layChoice_270 (by decide) (fun c270 => ?_) (fun c270 => ?_)
                · skip
                  refine jr_aload_n F dX8_layChoice_324 rfl ?_
                  refine jr_iload F dX8_layChoice_325 rfl ?_
                  refine jr_iload F dX8_layChoice_327 rfl ?_
                  refine jr_iload F dX8_layChoice_329 rfl ?_
                  refine jr_iload F dX8_layChoice_331 rfl ?_
                  refine jr_isub F dX8_layChoice_333 ?_
                  refine jr_iload F dX8_layChoice_334 rfl ?_
                  refine jr_iload F dX8_layChoice_336 rfl ?_
                  refine jr_isub F dX8_layChoice_338 ?_
                  refine jr_vVx F dX8_layChoice_339 cv_X8_193 (c_X8_bind (by omega) (by omega) (by omega) (by omega)) (Nat.le_of_ble_eq_true rfl) rfl rfl rfl rfl (Nat.le_of_ble_eq_true rfl) (Nat.le_of_ble_eq_true rfl) rfl (Nat.le_of_ble_eq_true rfl) (fun w339_3 e339_3 => ?_)
                  refine jr_iinc F dX8_layChoice_342 rfl (Nat.le_of_ble_eq_true rfl) rfl ?_
                  refine jr_goto (tgt := 172) F dX8_layChoice_345 (by decide) ?_
                  first | exact jr_sub (ih172 _ (i + 1) _ (by omega) (by omega) hx hy hb (fun v => by rw [hv v, LC_n (by omega)])) ⟨rfl, rfl, rfl, rfl, rfl, trivial⟩ | exact jr_sub (ih172 _ (i + 1) _ (by omega) (by omega) (by subst e339_3; exact c19_t hx (bdw_c _ _ _ _ _)) hy (by subst e339_3; exact bdw_B (by omega) (by omega) (by omega) (by omega) (by omega) (by omega) (by omega) hb) (by subst e339_3; exact LC_y hv i0.1 (by omega) c203 (by omega) (by unfold lsC rdC lapw; (repeat' split) <;> first | contradiction | omega | (exfalso; omega) | exact absurd (cb1.mp (by omega)) (by assumption) | exact absurd (cb1.mpr (by assumption)) (by omega)) (by unfold msC rdC lapw; (repeat' split) <;> first | contradiction | omega | (exfalso; omega) | exact absurd (cb1.mp (by omega)) (by assumption) | exact absurd (cb1.mpr (by assumption)) (by omega)))) ⟨rfl, rfl, rfl, rfl, rfl, trivial⟩
                · skip
                  refine jr_iload_n F dX8_layChoice_273 rfl ?_
                  refine jr_aload_n F dX8_layChoice_274 rfl ?_
                  refine jr_iload F dX8_layChoice_275 rfl ?_
                  refine jr_vI F dX8_layChoice_277 cv_X8_197 (c_X8_misreadAhead hMx h3 (by omega)) (Nat.le_of_ble_eq_true rfl) rfl rfl rfl rfl (Nat.le_of_ble_eq_true rfl) (Nat.le_of_ble_eq_true rfl) rfl (Nat.le_of_ble_eq_true rfl) ?_
                  have mR := mra_R (w := w) (p := fa w i 5) (by omega) (show fa w i 5 ≤ 10 by omega)
                  refine jr_ishr F dX8_layChoice_280 ?_
                  refine jr_iconst F dX8_layChoice_281 ?_
                  refine jr_iand F dX8_layChoice_282 ?_
                  refine jr_top (z := (cb c (mra w (fa w i 5)))) F (b_bit (by omega) (by omega)) ?_
                  have cR := cb_R c (mra w (fa w i 5))
                  have cb1 : cb c (mra w (fa w i 5)) = 1 ↔ inb c (mra w (fa w i 5)) := bi_eq1
                  refine jr_iconst F dX8_layChoice_283 ?_
                  refine jr_icmp_ne (tgt := 303) F dX8_layChoice_284 (by decide) (fun c284 => ?_) (fun c284 => ?_) (by omega) (by omega)
                  · skip
                    refine jr_aload_n F dX8_layChoice_303 rfl ?_
                    refine jr_getR (t := 3) F dX8_layChoice_304 fg_X8_16 (Nat.le_of_ble_eq_true rfl) rfl rfl ?_
                    refine jr_iload F dX8_layChoice_307 rfl ?_
                    refine jr_iald F dX8_layChoice_309 (Nat.le_of_ble_eq_true rfl) rfl (by omega) (fun q309 => ?_) (by omega) (by omega)
                    have v309 : x 3 ((fa w i 5)) = (fa w (fa w i 5) 2) := (rmf2 hMx (r := (fa w i 5)) (by omega) (by omega))
                    rw [v309] at q309
                    refine jr_ti v309 ?_
                    refine jr_aload_n F dX8_layChoice_310 rfl ?_
                    refine jr_getR (t := 20) F dX8_layChoice_311 fg_X8_69 (Nat.le_of_ble_eq_true rfl) rfl rfl ?_
                    refine jr_iload F dX8_layChoice_314 rfl ?_
                    refine jr_iald F dX8_layChoice_316 (Nat.le_of_ble_eq_true rfl) rfl (by omega) (fun q316 => ?_) (by omega) (by omega)
                    refine jr_ti (b := (K (fa w i 5))) (by rw [x20]; exact (hK _ (by omega) (by omega)).1) ?_
                    refine jr_isub F dX8_layChoice_317 ?_
                    refine jr_istore F dX8_layChoice_318 (Nat.le_of_ble_eq_true rfl) rfl ?_
                    refine jr_iload F dX8_layChoice_320 rfl ?_
                    refine jr_istore F dX8_layChoice_322 (Nat.le_of_ble_eq_true rfl) rfl ?_
                    refine jr_aload_n F dX8_layChoice_324 rfl ?_
                    refine jr_iload F dX8_layChoice_325 rfl ?_
                    refine jr_iload F dX8_layChoice_327 rfl ?_
                    refine jr_iload F dX8_layChoice_329 rfl ?_
                    refine jr_iload F dX8_layChoice_331 rfl ?_
                    refine jr_isub F dX8_layChoice_333 ?_
                    refine jr_iload F dX8_layChoice_334 rfl ?_
                    refine jr_iload F dX8_layChoice_336 rfl ?_
                    refine jr_isub F dX8_layChoice_338 ?_
                    refine jr_vVx F dX8_layChoice_339 cv_X8_193 (c_X8_bind (by omega) (by omega) (by omega) (by omega)) (Nat.le_of_ble_eq_true rfl) rfl rfl rfl rfl (Nat.le_of_ble_eq_true rfl) (Nat.le_of_ble_eq_true rfl) rfl (Nat.le_of_ble_eq_true rfl) (fun w339_4 e339_4 => ?_)
                    refine jr_iinc F dX8_layChoice_342 rfl (Nat.le_of_ble_eq_true rfl) rfl ?_
                    refine jr_goto (tgt := 172) F dX8_layChoice_345 (by decide) ?_
                    first | exact jr_sub (ih172 _ (i + 1) _ (by omega) (by omega) hx hy hb (fun v => by rw [hv v, LC_n (by omega)])) ⟨rfl, rfl, rfl, rfl, rfl, trivial⟩ | exact jr_sub (ih172 _ (i + 1) _ (by omega) (by omega) (by subst e339_4; exact c19_t hx (bdw_c _ _ _ _ _)) hy (by subst e339_4; exact bdw_B (by omega) (by omega) (by omega) (by omega) (by omega) (by omega) (by omega) hb) (by subst e339_4; exact LC_y hv i0.1 (by omega) c203 (by omega) (by unfold lsC rdC lapw; (repeat' split) <;> first | contradiction | omega | (exfalso; omega) | exact absurd (cb1.mp (by omega)) (by assumption) | exact absurd (cb1.mpr (by assumption)) (by omega)) (by unfold msC rdC lapw; (repeat' split) <;> first | contradiction | omega | (exfalso; omega) | exact absurd (cb1.mp (by omega)) (by assumption) | exact absurd (cb1.mpr (by assumption)) (by omega)))) ⟨rfl, rfl, rfl, rfl, rfl, trivial⟩
                  · skip
                    refine jr_aload_n F dX8_layChoice_287 rfl ?_
                    refine jr_iload F dX8_layChoice_288 rfl ?_
                    refine jr_aload_n F dX8_layChoice_290 rfl ?_
                    refine jr_getR (t := 20) F dX8_layChoice_291 fg_X8_69 (Nat.le_of_ble_eq_true rfl) rfl rfl ?_
                    refine jr_iload F dX8_layChoice_294 rfl ?_
                    refine jr_iald F dX8_layChoice_296 (Nat.le_of_ble_eq_true rfl) rfl (by omega) (fun q296 => ?_) (by omega) (by omega)
                    refine jr_ti (b := (K (fa w i 5))) (by rw [x20]; exact (hK _ (by omega) (by omega)).1) ?_
                    refine jr_vI F dX8_layChoice_297 cv_X8_110 (c_X8_otherLength hMx rp.1 kk) (Nat.le_of_ble_eq_true rfl) rfl rfl rfl rfl (Nat.le_of_ble_eq_true rfl) (Nat.le_of_ble_eq_true rfl) rfl (Nat.le_of_ble_eq_true rfl) ?_
                    refine jr_goto (tgt := 318) F dX8_layChoice_300 (by decide) ?_
                    refine jr_istore F dX8_layChoice_318 (Nat.le_of_ble_eq_true rfl) rfl ?_
                    refine jr_iload F dX8_layChoice_320 rfl ?_
                    refine jr_istore F dX8_layChoice_322 (Nat.le_of_ble_eq_true rfl) rfl ?_
                    refine jr_aload_n F dX8_layChoice_324 rfl ?_
                    refine jr_iload F dX8_layChoice_325 rfl ?_
                    refine jr_iload F dX8_layChoice_327 rfl ?_
                    refine jr_iload F dX8_layChoice_329 rfl ?_
                    refine jr_iload F dX8_layChoice_331 rfl ?_
                    refine jr_isub F dX8_layChoice_333 ?_
                    refine jr_iload F dX8_layChoice_334 rfl ?_
                    refine jr_iload F dX8_layChoice_336 rfl ?_
                    refine jr_isub F dX8_layChoice_338 ?_
                    refine jr_vVx F dX8_layChoice_339 cv_X8_193 (c_X8_bind (by omega) (by omega) (by omega) (by omega)) (Nat.le_of_ble_eq_true rfl) rfl rfl rfl rfl (Nat.le_of_ble_eq_true rfl) (Nat.le_of_ble_eq_true rfl) rfl (Nat.le_of_ble_eq_true rfl) (fun w339_5 e339_5 => ?_)
                    refine jr_iinc F dX8_layChoice_342 rfl (Nat.le_of_ble_eq_true rfl) rfl ?_
                    refine jr_goto (tgt := 172) F dX8_layChoice_345 (by decide) ?_
                    first | exact jr_sub (ih172 _ (i + 1) _ (by omega) (by omega) hx hy hb (fun v => by rw [hv v, LC_n (by omega)])) ⟨rfl, rfl, rfl, rfl, rfl, trivial⟩ | exact jr_sub (ih172 _ (i + 1) _ (by omega) (by omega) (by subst e339_5; exact c19_t hx (bdw_c _ _ _ _ _)) hy (by subst e339_5; exact bdw_B (by omega) (by omega) (by omega) (by omega) (by omega) (by omega) (by omega) hb) (by subst e339_5; exact LC_y hv i0.1 (by omega) c203 (by omega) (by unfold lsC rdC lapw; (repeat' split) <;> first | contradiction | omega | (exfalso; omega) | exact absurd (cb1.mp (by omega)) (by assumption) | exact absurd (cb1.mpr (by assumption)) (by omega)) (by unfold msC rdC lapw; (repeat' split) <;> first | contradiction | omega | (exfalso; omega) | exact absurd (cb1.mp (by omega)) (by assumption) | exact absurd (cb1.mpr (by assumption)) (by omega)))) ⟨rfl, rfl, rfl, rfl, rfl, trivial⟩
  refine jr_iconst F dX8_layChoice_0 ?_
  refine jr_istore_n F dX8_layChoice_1 (Nat.le_of_ble_eq_true rfl) rfl ?_
  refine jr_iconst F dX8_layChoice_2 ?_
  refine jr_istore F dX8_layChoice_3 (Nat.le_of_ble_eq_true rfl) rfl ?_
  refine jr_iconst F dX8_layChoice_5 ?_
  refine jr_istore F dX8_layChoice_6 (Nat.le_of_ble_eq_true rfl) rfl ?_
  have L8 : ∀ (fuel : Nat) (u : Wd) (i : Int), (121 - i).toNat < fuel → (0 ≤ i ∧ i ≤ 121) → (c19 m u) → (M0 u i) → Jw (GM B) X (pB (VC w e c) (fun u => c19 m u ∧ MB (mm u) ∧ ∀ v, Sat 11 (mm u) v ↔ FARc v ∧ KNc w e (w 1 3) v ∧ LCc w e K c (w 1 3) v)) 8 [some (.ref (ga (GM B) 0)), some (iv e), some (iv c), some (iv 0), some (iv 1), some (iv i)] [] u := by
    intro fuel
    induction fuel with
    | zero => intro u i hfuel; exact absurd hfuel (Nat.not_lt_zero _)
    | succ fuel ih8 =>
        intro u i hfuel i0 hu h0
        refine jr_iload F dX8_layChoice_8 rfl ?_
        refine jr_bipush F dX8_layChoice_10 (by decide) ?_
        refine jr_icmp_ge (tgt := 42) F dX8_layChoice_12 (by decide) (fun c12 => ?_) (fun c12 => ?_) (by omega) (by omega)
        · skip
          obtain rfl : i = 121 := by omega
          refine jr_iconst F dX8_layChoice_42 ?_
          refine jr_istore F dX8_layChoice_43 (Nat.le_of_ble_eq_true rfl) rfl ?_
          have L45 : ∀ (fuel : Nat) (u : Wd) (i : Int) (y : Int), (w 1 3 - i).toNat < fuel → (0 ≤ i ∧ i ≤ w 1 3) → (c19 m u) → ((y = 1 ∧ VCc w e c i) ∨ (y = 0 ∧ ¬ VCc w e c i)) → (MB (mm u)) → (∀ v, Sat 11 (mm u) v ↔ FARc v ∧ KNc w e i v) → Jw (GM B) X (pB (VC w e c) (fun u => c19 m u ∧ MB (mm u) ∧ ∀ v, Sat 11 (mm u) v ↔ FARc v ∧ KNc w e (w 1 3) v ∧ LCc w e K c (w 1 3) v)) 45 [some (.ref (ga (GM B) 0)), some (iv e), some (iv c), some (iv (mra w i)), some (iv y), some (iv i)] [] u := by
            intro fuel
            induction fuel with
            | zero => intro u i y hfuel; exact absurd hfuel (Nat.not_lt_zero _)
            | succ fuel ih45 =>
                intro u i y hfuel i0 hu hy hb hv
                have hMu : RM w u := c19_RM hu hM
                have mR := mra_R (w := w) i0.1 (show i ≤ 10 by omega)
                refine jr_iload F dX8_layChoice_45 rfl ?_
                refine jr_aload_n F dX8_layChoice_47 rfl ?_
                refine jr_getIx F (w 1 3) dX8_layChoice_48 fg_X8_84 (Nat.le_of_ble_eq_true rfl) rfl rfl ((show u 0 0 = (w 1 3) from rn0 hMu)) (fun q48 => ?_)
                refine jr_icmp_ge (tgt := 148) F dX8_layChoice_51 (by decide) (fun c51 => ?_) (fun c51 => ?_) (by omega) (by omega)
                · skip
                  obtain rfl : i = w 1 3 := by omega
                  refine jr_iload F dX8_layChoice_148 rfl ?_
                  refine jr_if_eq (tgt := 166) F dX8_layChoice_150 (by decide) (fun c150 => ?_) (fun c150 => ?_) (by omega)
                  · skip
                    refine jr_iconst F dX8_layChoice_166 ?_
                    refine jr_istore F dX8_layChoice_167 (Nat.le_of_ble_eq_true rfl) rfl ?_
                    refine jr_iconst F dX8_layChoice_169 ?_
                    refine jr_istore F dX8_layChoice_170 (Nat.le_of_ble_eq_true rfl) rfl ?_
                    exact jr_sub (L172 _ u 0 _ (Nat.lt_succ_self _) (by omega) hu (by unfold VC; rcases hy with ⟨y1, y2⟩ | ⟨y1, y2⟩ <;> first | (exfalso; omega) | exact Or.inl ⟨rfl, y2, by omega⟩ | exact Or.inr ⟨rfl, fun q => y2 q.1⟩ | exact Or.inr ⟨rfl, fun q => by have := q.2; omega⟩) hb (fun v => by rw [hv v]; exact ⟨fun q => ⟨q.1, q.2, fun r a b => by omega⟩, fun q => ⟨q.1, q.2.1⟩⟩)) ⟨rfl, rfl, rfl, rfl, rfl, trivial⟩
                  · skip
                    have aR := anb_R (a := c) (m := 7) (by omega)
                    refine jr_iload_n F dX8_layChoice_153 rfl ?_
                    refine jr_bipush F dX8_layChoice_154 (by decide) ?_
                    refine jr_iand F dX8_layChoice_156 ?_
                    refine jr_top (z := (anb c 7)) F (b_anb (by omega) (by omega)) ?_
                    refine jr_iload_n F dX8_layChoice_157 rfl ?_
                    refine jr_ishr F dX8_layChoice_158 ?_
                    refine jr_top (z := (vrs w c)) F (b_shr (by omega) (by omega)) ?_
                    have vR : 0 ≤ vrs w c ∧ vrs w c ≤ 1023 := by have z : (anb c 7).toNat / 2 ^ (mra w (w 1 3)).toNat ≤ (anb c 7).toNat := Nat.div_le_self _ _; unfold vrs; generalize (anb c 7).toNat / 2 ^ (mra w (w 1 3)).toNat = q at z ⊢; omega
                    refine jr_if_ne (tgt := 166) F dX8_layChoice_159 (by decide) (fun c159 => ?_) (fun c159 => ?_) (by omega)
                    · skip
                      refine jr_iconst F dX8_layChoice_166 ?_
                      refine jr_istore F dX8_layChoice_167 (Nat.le_of_ble_eq_true rfl) rfl ?_
                      refine jr_iconst F dX8_layChoice_169 ?_
                      refine jr_istore F dX8_layChoice_170 (Nat.le_of_ble_eq_true rfl) rfl ?_
                      exact jr_sub (L172 _ u 0 _ (Nat.lt_succ_self _) (by omega) hu (by unfold VC; rcases hy with ⟨y1, y2⟩ | ⟨y1, y2⟩ <;> first | (exfalso; omega) | exact Or.inl ⟨rfl, y2, by omega⟩ | exact Or.inr ⟨rfl, fun q => y2 q.1⟩ | exact Or.inr ⟨rfl, fun q => by have := q.2; omega⟩) hb (fun v => by rw [hv v]; exact ⟨fun q => ⟨q.1, q.2, fun r a b => by omega⟩, fun q => ⟨q.1, q.2.1⟩⟩)) ⟨rfl, rfl, rfl, rfl, rfl, trivial⟩
                    · skip
                      refine jr_iconst F dX8_layChoice_162 ?_
                      refine jr_goto (tgt := 167) F dX8_layChoice_163 (by decide) ?_
                      refine jr_istore F dX8_layChoice_167 (Nat.le_of_ble_eq_true rfl) rfl ?_
                      refine jr_iconst F dX8_layChoice_169 ?_
                      refine jr_istore F dX8_layChoice_170 (Nat.le_of_ble_eq_true rfl) rfl ?_
                      exact jr_sub (L172 _ u 0 _ (Nat.lt_succ_self _) (by omega) hu (by unfold VC; rcases hy with ⟨y1, y2⟩ | ⟨y1, y2⟩ <;> first | (exfalso; omega) | exact Or.inl ⟨rfl, y2, by omega⟩ | exact Or.inr ⟨rfl, fun q => y2 q.1⟩ | exact Or.inr ⟨rfl, fun q => by have := q.2; omega⟩) hb (fun v => by rw [hv v]; exact ⟨fun q => ⟨q.1, q.2, fun r a b => by omega⟩, fun q => ⟨q.1, q.2.1⟩⟩)) ⟨rfl, rfl, rfl, rfl, rfl, trivial⟩
                · skip
                  have ri := hR.2 i i0.1 (by omega)
                  have f4 := ri.1.2.2 4 (by omega) (by omega)
                  refine jr_iload_n F dX8_layChoice_54 rfl ?_
                  refine jr_iload_n F dX8_layChoice_55 rfl ?_
                  refine jr_ishr F dX8_layChoice_56 ?_
                  refine jr_iconst F dX8_layChoice_57 ?_
                  refine jr_iand F dX8_layChoice_58 ?_
                  refine jr_top (z := (cb c (mra w i))) F (b_bit (by omega) (by omega)) ?_
                  refine jr_istore F dX8_layChoice_59 (Nat.le_of_ble_eq_true rfl) rfl ?_
                  refine jr_aload_n F dX8_layChoice_61 rfl ?_
                  refine jr_getR (t := 2) F dX8_layChoice_62 fg_X8_13 (Nat.le_of_ble_eq_true rfl) rfl rfl ?_
                  refine jr_iload F dX8_layChoice_65 rfl ?_
                  refine jr_iald F dX8_layChoice_67 (Nat.le_of_ble_eq_true rfl) rfl (by omega) (fun q67 => ?_) (by omega) (by omega)
                  have v67 : u 2 (i) = (fa w i 1) := (rmf1 hMu (r := i) (by omega) (by omega))
                  rw [v67] at q67
                  refine jr_ti v67 ?_
                  refine jr_sI F dX8_layChoice_68 cs_X8_100 (c_X8_isMisread (by omega)) rfl (Nat.le_of_ble_eq_true rfl) (Nat.le_of_ble_eq_true rfl) rfl (Nat.le_of_ble_eq_true rfl) ?_
                  refine jr_istore F dX8_layChoice_71 (Nat.le_of_ble_eq_true rfl) rfl ?_
                  refine jr_iload_n F dX8_layChoice_73 rfl ?_
                  refine jr_iload F dX8_layChoice_74 rfl ?_
                  refine jr_ifeq_b (tgt := 83) F dX8_layChoice_76 (by decide) (fun c76 => ?_) (fun c76 => ?_)
                  · skip
                    refine jr_iconst F dX8_layChoice_83 ?_
                    refine jr_iadd F dX8_layChoice_84 ?_
                    refine jr_istore_n F dX8_layChoice_85 (Nat.le_of_ble_eq_true rfl) rfl ?_
                    refine jr_iload F dX8_layChoice_86 rfl ?_
                    refine jr_if_eq (tgt := 115) F dX8_layChoice_88 (by decide) (fun c88 => ?_) (fun c88 => ?_) (by omega)
                    · skip
                      refine jr_iconst F dX8_layChoice_115 ?_
                      refine jr_istore F dX8_layChoice_116 (Nat.le_of_ble_eq_true rfl) rfl ?_
                      refine jr_aload_n F dX8_layChoice_118 rfl ?_
                      refine jr_iload F dX8_layChoice_119 rfl ?_
                      refine jr_iload_n F dX8_layChoice_121 rfl ?_
                      refine jr_vI F dX8_layChoice_122 cv_X8_188 (c_X8_isKnown hMu (by omega) (by omega)) (Nat.le_of_ble_eq_true rfl) rfl rfl rfl rfl (Nat.le_of_ble_eq_true rfl) (Nat.le_of_ble_eq_true rfl) rfl (Nat.le_of_ble_eq_true rfl) ?_
                      refine jr_ifeq_b (tgt := 142) F dX8_layChoice_125 (by decide) (fun c125 => ?_) (fun c125 => ?_)
                      · skip
                        refine jr_iinc F dX8_layChoice_142 rfl (Nat.le_of_ble_eq_true rfl) rfl ?_
                        refine jr_goto (tgt := 45) F dX8_layChoice_145 (by decide) ?_
                        first | exact jr_sub (ih45 _ (i + 1) _ (by omega) (by omega) hu (by rw [VCc_s i0.1]; rcases hy with ⟨y1, y2⟩ | ⟨y1, y2⟩ <;> first | (exfalso; omega) | exact Or.inl ⟨rfl, y2, fun a b => by first | exact c108 | exact absurd a c76 | exact absurd b c98⟩ | exact Or.inr ⟨rfl, fun q => y2 q.1⟩ | exact Or.inr ⟨rfl, fun q => c108 (q.2 c76 c98)⟩) hb (fun v => by rw [hv v, KN_n c125])) ⟨rfl, rfl, rfl, by first | (rw [mra_y i0.1 c76]; rfl) | (rw [mra_n i0.1 c76]; rw [Int.add_zero]; rfl), rfl, rfl, trivial⟩ | exact jr_sub (ih45 _ (i + 1) _ (by omega) (by omega) (by subst e139; exact c19_t hu (bdw_c _ _ _ _ _)) (by rw [VCc_s i0.1]; rcases hy with ⟨y1, y2⟩ | ⟨y1, y2⟩ <;> first | (exfalso; omega) | exact Or.inl ⟨rfl, y2, fun a b => by first | exact c108 | exact absurd a c76 | exact absurd b c98⟩ | exact Or.inr ⟨rfl, fun q => y2 q.1⟩ | exact Or.inr ⟨rfl, fun q => c108 (q.2 c76 c98)⟩) (by subst e139; exact bdw_B (by omega) (by omega) (by omega) (by omega) (by omega) (by omega) (by omega) hb) (by subst e139; intro v; rw [bdw_S (by omega) (by omega) (by omega) (by omega) (by omega), hv v, KN_y i0.1 c125, and_assoc])) ⟨rfl, rfl, rfl, by first | (rw [mra_y i0.1 c76]; rfl) | (rw [mra_n i0.1 c76]; rw [Int.add_zero]; rfl), rfl, rfl, trivial⟩
                      · skip
                        refine jr_aload_n F dX8_layChoice_128 rfl ?_
                        refine jr_bipush F dX8_layChoice_129 (by decide) ?_
                        refine jr_iload F dX8_layChoice_131 rfl ?_
                        refine jr_sipush F dX8_layChoice_133 (by decide) ?_
                        refine jr_sipush F dX8_layChoice_136 (by decide) ?_
                        refine jr_vVx F dX8_layChoice_139 cv_X8_193 (c_X8_bind (by omega) (by omega) (by omega) (by omega)) (Nat.le_of_ble_eq_true rfl) rfl rfl rfl rfl (Nat.le_of_ble_eq_true rfl) (Nat.le_of_ble_eq_true rfl) rfl (Nat.le_of_ble_eq_true rfl) (fun w139 e139 => ?_)
                        refine jr_iinc F dX8_layChoice_142 rfl (Nat.le_of_ble_eq_true rfl) rfl ?_
                        refine jr_goto (tgt := 45) F dX8_layChoice_145 (by decide) ?_
                        first | exact jr_sub (ih45 _ (i + 1) _ (by omega) (by omega) hu (by rw [VCc_s i0.1]; rcases hy with ⟨y1, y2⟩ | ⟨y1, y2⟩ <;> first | (exfalso; omega) | exact Or.inl ⟨rfl, y2, fun a b => by first | exact c108 | exact absurd a c76 | exact absurd b c98⟩ | exact Or.inr ⟨rfl, fun q => y2 q.1⟩ | exact Or.inr ⟨rfl, fun q => c108 (q.2 c76 c98)⟩) hb (fun v => by rw [hv v, KN_n c125])) ⟨rfl, rfl, rfl, by first | (rw [mra_y i0.1 c76]; rfl) | (rw [mra_n i0.1 c76]; rw [Int.add_zero]; rfl), rfl, rfl, trivial⟩ | exact jr_sub (ih45 _ (i + 1) _ (by omega) (by omega) (by subst e139; exact c19_t hu (bdw_c _ _ _ _ _)) (by rw [VCc_s i0.1]; rcases hy with ⟨y1, y2⟩ | ⟨y1, y2⟩ <;> first | (exfalso; omega) | exact Or.inl ⟨rfl, y2, fun a b => by first | exact c108 | exact absurd a c76 | exact absurd b c98⟩ | exact Or.inr ⟨rfl, fun q => y2 q.1⟩ | exact Or.inr ⟨rfl, fun q => c108 (q.2 c76 c98)⟩) (by subst e139; exact bdw_B (by omega) (by omega) (by omega) (by omega) (by omega) (by omega) (by omega) hb) (by subst e139; intro v; rw [bdw_S (by omega) (by omega) (by omega) (by omega) (by omega), hv v, KN_y i0.1 c125, and_assoc])) ⟨rfl, rfl, rfl, by first | (rw [mra_y i0.1 c76]; rfl) | (rw [mra_n i0.1 c76]; rw [Int.add_zero]; rfl), rfl, rfl, trivial⟩
                    · skip
                      refine jr_iload F dX8_layChoice_91 rfl ?_
                      refine jr_ifeq_b (tgt := 111) F dX8_layChoice_93 (by decide) (fun c93 => ?_) (fun c93 => ?_)
                      · skip
                        refine jr_iconst F dX8_layChoice_111 ?_
                        refine jr_goto (tgt := 116) F dX8_layChoice_112 (by decide) ?_
                        refine jr_istore F dX8_layChoice_116 (Nat.le_of_ble_eq_true rfl) rfl ?_
                        refine jr_aload_n F dX8_layChoice_118 rfl ?_
                        refine jr_iload F dX8_layChoice_119 rfl ?_
                        refine jr_iload_n F dX8_layChoice_121 rfl ?_
                        refine jr_vI F dX8_layChoice_122 cv_X8_188 (c_X8_isKnown hMu (by omega) (by omega)) (Nat.le_of_ble_eq_true rfl) rfl rfl rfl rfl (Nat.le_of_ble_eq_true rfl) (Nat.le_of_ble_eq_true rfl) rfl (Nat.le_of_ble_eq_true rfl) ?_
                        refine jr_ifeq_b (tgt := 142) F dX8_layChoice_125 (by decide) (fun c125 => ?_) (fun c125 => ?_)
                        · skip
                          refine jr_iinc F dX8_layChoice_142 rfl (Nat.le_of_ble_eq_true rfl) rfl ?_
                          refine jr_goto (tgt := 45) F dX8_layChoice_145 (by decide) ?_
                          first | exact jr_sub (ih45 _ (i + 1) _ (by omega) (by omega) hu (by rw [VCc_s i0.1]; rcases hy with ⟨y1, y2⟩ | ⟨y1, y2⟩ <;> first | (exfalso; omega) | exact Or.inl ⟨rfl, y2, fun a b => by first | exact c108 | exact absurd a c76 | exact absurd b c98⟩ | exact Or.inr ⟨rfl, fun q => y2 q.1⟩ | exact Or.inr ⟨rfl, fun q => c108 (q.2 c76 c98)⟩) hb (fun v => by rw [hv v, KN_n c125])) ⟨rfl, rfl, rfl, by first | (rw [mra_y i0.1 c76]; rfl) | (rw [mra_n i0.1 c76]; rw [Int.add_zero]; rfl), rfl, rfl, trivial⟩ | exact jr_sub (ih45 _ (i + 1) _ (by omega) (by omega) (by subst e139; exact c19_t hu (bdw_c _ _ _ _ _)) (by rw [VCc_s i0.1]; rcases hy with ⟨y1, y2⟩ | ⟨y1, y2⟩ <;> first | (exfalso; omega) | exact Or.inl ⟨rfl, y2, fun a b => by first | exact c108 | exact absurd a c76 | exact absurd b c98⟩ | exact Or.inr ⟨rfl, fun q => y2 q.1⟩ | exact Or.inr ⟨rfl, fun q => c108 (q.2 c76 c98)⟩) (by subst e139; exact bdw_B (by omega) (by omega) (by omega) (by omega) (by omega) (by omega) (by omega) hb) (by subst e139; intro v; rw [bdw_S (by omega) (by omega) (by omega) (by omega) (by omega), hv v, KN_y i0.1 c125, and_assoc])) ⟨rfl, rfl, rfl, by first | (rw [mra_y i0.1 c76]; rfl) | (rw [mra_n i0.1 c76]; rw [Int.add_zero]; rfl), rfl, rfl, trivial⟩
                        · skip
                          refine jr_aload_n F dX8_layChoice_128 rfl ?_
                          refine jr_bipush F dX8_layChoice_129 (by decide) ?_
                          refine jr_iload F dX8_layChoice_131 rfl ?_
                          refine jr_sipush F dX8_layChoice_133 (by decide) ?_
                          refine jr_sipush F dX8_layChoice_136 (by decide) ?_
                          refine jr_vVx F dX8_layChoice_139 cv_X8_193 (c_X8_bind (by omega) (by omega) (by omega) (by omega)) (Nat.le_of_ble_eq_true rfl) rfl rfl rfl rfl (Nat.le_of_ble_eq_true rfl) (Nat.le_of_ble_eq_true rfl) rfl (Nat.le_of_ble_eq_true rfl) (fun w139_1 e139_1 => ?_)
                          refine jr_iinc F dX8_layChoice_142 rfl (Nat.le_of_ble_eq_true rfl) rfl ?_
                          refine jr_goto (tgt := 45) F dX8_layChoice_145 (by decide) ?_
                          first | exact jr_sub (ih45 _ (i + 1) _ (by omega) (by omega) hu (by rw [VCc_s i0.1]; rcases hy with ⟨y1, y2⟩ | ⟨y1, y2⟩ <;> first | (exfalso; omega) | exact Or.inl ⟨rfl, y2, fun a b => by first | exact c108 | exact absurd a c76 | exact absurd b c98⟩ | exact Or.inr ⟨rfl, fun q => y2 q.1⟩ | exact Or.inr ⟨rfl, fun q => c108 (q.2 c76 c98)⟩) hb (fun v => by rw [hv v, KN_n c125])) ⟨rfl, rfl, rfl, by first | (rw [mra_y i0.1 c76]; rfl) | (rw [mra_n i0.1 c76]; rw [Int.add_zero]; rfl), rfl, rfl, trivial⟩ | exact jr_sub (ih45 _ (i + 1) _ (by omega) (by omega) (by subst e139_1; exact c19_t hu (bdw_c _ _ _ _ _)) (by rw [VCc_s i0.1]; rcases hy with ⟨y1, y2⟩ | ⟨y1, y2⟩ <;> first | (exfalso; omega) | exact Or.inl ⟨rfl, y2, fun a b => by first | exact c108 | exact absurd a c76 | exact absurd b c98⟩ | exact Or.inr ⟨rfl, fun q => y2 q.1⟩ | exact Or.inr ⟨rfl, fun q => c108 (q.2 c76 c98)⟩) (by subst e139_1; exact bdw_B (by omega) (by omega) (by omega) (by omega) (by omega) (by omega) (by omega) hb) (by subst e139_1; intro v; rw [bdw_S (by omega) (by omega) (by omega) (by omega) (by omega), hv v, KN_y i0.1 c125, and_assoc])) ⟨rfl, rfl, rfl, by first | (rw [mra_y i0.1 c76]; rfl) | (rw [mra_n i0.1 c76]; rw [Int.add_zero]; rfl), rfl, rfl, trivial⟩
                      · exact absurd c93 c76
                  · skip
                    refine jr_iconst F dX8_layChoice_79 ?_
                    refine jr_goto (tgt := 84) F dX8_layChoice_80 (by decide) ?_
                    refine jr_iadd F dX8_layChoice_84 ?_
                    refine jr_istore_n F dX8_layChoice_85 (Nat.le_of_ble_eq_true rfl) rfl ?_
                    refine jr_iload F dX8_layChoice_86 rfl ?_
                    refine jr_if_eq (tgt := 115) F dX8_layChoice_88 (by decide) (fun c88 => ?_) (fun c88 => ?_) (by omega)
                    · skip
                      refine jr_iconst F dX8_layChoice_115 ?_
                      refine jr_istore F dX8_layChoice_116 (Nat.le_of_ble_eq_true rfl) rfl ?_
                      refine jr_aload_n F dX8_layChoice_118 rfl ?_
                      refine jr_iload F dX8_layChoice_119 rfl ?_
                      refine jr_iload_n F dX8_layChoice_121 rfl ?_
                      refine jr_vI F dX8_layChoice_122 cv_X8_188 (c_X8_isKnown hMu (by omega) (by omega)) (Nat.le_of_ble_eq_true rfl) rfl rfl rfl rfl (Nat.le_of_ble_eq_true rfl) (Nat.le_of_ble_eq_true rfl) rfl (Nat.le_of_ble_eq_true rfl) ?_
                      refine jr_ifeq_b (tgt := 142) F dX8_layChoice_125 (by decide) (fun c125 => ?_) (fun c125 => ?_)
                      · skip
                        refine jr_iinc F dX8_layChoice_142 rfl (Nat.le_of_ble_eq_true rfl) rfl ?_
                        refine jr_goto (tgt := 45) F dX8_layChoice_145 (by decide) ?_
                        first | exact jr_sub (ih45 _ (i + 1) _ (by omega) (by omega) hu (by rw [VCc_s i0.1]; rcases hy with ⟨y1, y2⟩ | ⟨y1, y2⟩ <;> first | (exfalso; omega) | exact Or.inl ⟨rfl, y2, fun a b => by first | exact c108 | exact absurd a c76 | exact absurd b c98⟩ | exact Or.inr ⟨rfl, fun q => y2 q.1⟩ | exact Or.inr ⟨rfl, fun q => c108 (q.2 c76 c98)⟩) hb (fun v => by rw [hv v, KN_n c125])) ⟨rfl, rfl, rfl, by first | (rw [mra_y i0.1 c76]; rfl) | (rw [mra_n i0.1 c76]; rw [Int.add_zero]; rfl), rfl, rfl, trivial⟩ | exact jr_sub (ih45 _ (i + 1) _ (by omega) (by omega) (by subst e139_1; exact c19_t hu (bdw_c _ _ _ _ _)) (by rw [VCc_s i0.1]; rcases hy with ⟨y1, y2⟩ | ⟨y1, y2⟩ <;> first | (exfalso; omega) | exact Or.inl ⟨rfl, y2, fun a b => by first | exact c108 | exact absurd a c76 | exact absurd b c98⟩ | exact Or.inr ⟨rfl, fun q => y2 q.1⟩ | exact Or.inr ⟨rfl, fun q => c108 (q.2 c76 c98)⟩) (by subst e139_1; exact bdw_B (by omega) (by omega) (by omega) (by omega) (by omega) (by omega) (by omega) hb) (by subst e139_1; intro v; rw [bdw_S (by omega) (by omega) (by omega) (by omega) (by omega), hv v, KN_y i0.1 c125, and_assoc])) ⟨rfl, rfl, rfl, by first | (rw [mra_y i0.1 c76]; rfl) | (rw [mra_n i0.1 c76]; rw [Int.add_zero]; rfl), rfl, rfl, trivial⟩
                      · skip
                        refine jr_aload_n F dX8_layChoice_128 rfl ?_
                        refine jr_bipush F dX8_layChoice_129 (by decide) ?_
                        refine jr_iload F dX8_layChoice_131 rfl ?_
                        refine jr_sipush F dX8_layChoice_133 (by decide) ?_
                        refine jr_sipush F dX8_layChoice_136 (by decide) ?_
                        refine jr_vVx F dX8_layChoice_139 cv_X8_193 (c_X8_bind (by omega) (by omega) (by omega) (by omega)) (Nat.le_of_ble_eq_true rfl) rfl rfl rfl rfl (Nat.le_of_ble_eq_true rfl) (Nat.le_of_ble_eq_true rfl) rfl (Nat.le_of_ble_eq_true rfl) (fun w139_2 e139_2 => ?_)
                        refine jr_iinc F dX8_layChoice_142 rfl (Nat.le_of_ble_eq_true rfl) rfl ?_
                        refine jr_goto (tgt := 45) F dX8_layChoice_145 (by decide) ?_
                        first | exact jr_sub (ih45 _ (i + 1) _ (by omega) (by omega) hu (by rw [VCc_s i0.1]; rcases hy with ⟨y1, y2⟩ | ⟨y1, y2⟩ <;> first | (exfalso; omega) | exact Or.inl ⟨rfl, y2, fun a b => by first | exact c108 | exact absurd a c76 | exact absurd b c98⟩ | exact Or.inr ⟨rfl, fun q => y2 q.1⟩ | exact Or.inr ⟨rfl, fun q => c108 (q.2 c76 c98)⟩) hb (fun v => by rw [hv v, KN_n c125])) ⟨rfl, rfl, rfl, by first | (rw [mra_y i0.1 c76]; rfl) | (rw [mra_n i0.1 c76]; rw [Int.add_zero]; rfl), rfl, rfl, trivial⟩ | exact jr_sub (ih45 _ (i + 1) _ (by omega) (by omega) (by subst e139_2; exact c19_t hu (bdw_c _ _ _ _ _)) (by rw [VCc_s i0.1]; rcases hy with ⟨y1, y2⟩ | ⟨y1, y2⟩ <;> first | (exfalso; omega) | exact Or.inl ⟨rfl, y2, fun a b => by first | exact c108 | exact absurd a c76 | exact absurd b c98⟩ | exact Or.inr ⟨rfl, fun q => y2 q.1⟩ | exact Or.inr ⟨rfl, fun q => c108 (q.2 c76 c98)⟩) (by subst e139_2; exact bdw_B (by omega) (by omega) (by omega) (by omega) (by omega) (by omega) (by omega) hb) (by subst e139_2; intro v; rw [bdw_S (by omega) (by omega) (by omega) (by omega) (by omega), hv v, KN_y i0.1 c125, and_assoc])) ⟨rfl, rfl, rfl, by first | (rw [mra_y i0.1 c76]; rfl) | (rw [mra_n i0.1 c76]; rw [Int.add_zero]; rfl), rfl, rfl, trivial⟩
                    · skip
                      refine jr_iload F dX8_layChoice_91 rfl ?_
                      refine jr_ifeq_b (tgt := 111) F dX8_layChoice_93 (by decide) (fun c93 => ?_) (fun c93 => ?_)
                      · exact absurd c76 c93
                      · skip
                        refine jr_iload F dX8_layChoice_96 rfl ?_
                        refine jr_ifeq_b (tgt := 111) F dX8_layChoice_98 (by decide) (fun c98 => ?_) (fun c98 => ?_)
                        · skip
                          refine jr_iconst F dX8_layChoice_111 ?_
                          refine jr_goto (tgt := 116) F dX8_layChoice_112 (by decide) ?_
                          refine jr_istore F dX8_layChoice_116 (Nat.le_of_ble_eq_true rfl) rfl ?_
                          refine jr_aload_n F dX8_layChoice_118 rfl ?_
                          refine jr_iload F dX8_layChoice_119 rfl ?_
                          refine jr_iload_n F dX8_layChoice_121 rfl ?_
                          refine jr_vI F dX8_layChoice_122 cv_X8_188 (c_X8_isKnown hMu (by omega) (by omega)) (Nat.le_of_ble_eq_true rfl) rfl rfl rfl rfl (Nat.le_of_ble_eq_true rfl) (Nat.le_of_ble_eq_true rfl) rfl (Nat.le_of_ble_eq_true rfl) ?_
                          refine jr_ifeq_b (tgt := 142) F dX8_layChoice_125 (by decide) (fun c125 => ?_) (fun c125 => ?_)
                          · skip
                            refine jr_iinc F dX8_layChoice_142 rfl (Nat.le_of_ble_eq_true rfl) rfl ?_
                            refine jr_goto (tgt := 45) F dX8_layChoice_145 (by decide) ?_
                            first | exact jr_sub (ih45 _ (i + 1) _ (by omega) (by omega) hu (by rw [VCc_s i0.1]; rcases hy with ⟨y1, y2⟩ | ⟨y1, y2⟩ <;> first | (exfalso; omega) | exact Or.inl ⟨rfl, y2, fun a b => by first | exact c108 | exact absurd a c76 | exact absurd b c98⟩ | exact Or.inr ⟨rfl, fun q => y2 q.1⟩ | exact Or.inr ⟨rfl, fun q => c108 (q.2 c76 c98)⟩) hb (fun v => by rw [hv v, KN_n c125])) ⟨rfl, rfl, rfl, by first | (rw [mra_y i0.1 c76]; rfl) | (rw [mra_n i0.1 c76]; rw [Int.add_zero]; rfl), rfl, rfl, trivial⟩ | exact jr_sub (ih45 _ (i + 1) _ (by omega) (by omega) (by subst e139_2; exact c19_t hu (bdw_c _ _ _ _ _)) (by rw [VCc_s i0.1]; rcases hy with ⟨y1, y2⟩ | ⟨y1, y2⟩ <;> first | (exfalso; omega) | exact Or.inl ⟨rfl, y2, fun a b => by first | exact c108 | exact absurd a c76 | exact absurd b c98⟩ | exact Or.inr ⟨rfl, fun q => y2 q.1⟩ | exact Or.inr ⟨rfl, fun q => c108 (q.2 c76 c98)⟩) (by subst e139_2; exact bdw_B (by omega) (by omega) (by omega) (by omega) (by omega) (by omega) (by omega) hb) (by subst e139_2; intro v; rw [bdw_S (by omega) (by omega) (by omega) (by omega) (by omega), hv v, KN_y i0.1 c125, and_assoc])) ⟨rfl, rfl, rfl, by first | (rw [mra_y i0.1 c76]; rfl) | (rw [mra_n i0.1 c76]; rw [Int.add_zero]; rfl), rfl, rfl, trivial⟩
                          · skip
                            refine jr_aload_n F dX8_layChoice_128 rfl ?_
                            refine jr_bipush F dX8_layChoice_129 (by decide) ?_
                            refine jr_iload F dX8_layChoice_131 rfl ?_
                            refine jr_sipush F dX8_layChoice_133 (by decide) ?_
                            refine jr_sipush F dX8_layChoice_136 (by decide) ?_
                            refine jr_vVx F dX8_layChoice_139 cv_X8_193 (c_X8_bind (by omega) (by omega) (by omega) (by omega)) (Nat.le_of_ble_eq_true rfl) rfl rfl rfl rfl (Nat.le_of_ble_eq_true rfl) (Nat.le_of_ble_eq_true rfl) rfl (Nat.le_of_ble_eq_true rfl) (fun w139_3 e139_3 => ?_)
                            refine jr_iinc F dX8_layChoice_142 rfl (Nat.le_of_ble_eq_true rfl) rfl ?_
                            refine jr_goto (tgt := 45) F dX8_layChoice_145 (by decide) ?_
                            first | exact jr_sub (ih45 _ (i + 1) _ (by omega) (by omega) hu (by rw [VCc_s i0.1]; rcases hy with ⟨y1, y2⟩ | ⟨y1, y2⟩ <;> first | (exfalso; omega) | exact Or.inl ⟨rfl, y2, fun a b => by first | exact c108 | exact absurd a c76 | exact absurd b c98⟩ | exact Or.inr ⟨rfl, fun q => y2 q.1⟩ | exact Or.inr ⟨rfl, fun q => c108 (q.2 c76 c98)⟩) hb (fun v => by rw [hv v, KN_n c125])) ⟨rfl, rfl, rfl, by first | (rw [mra_y i0.1 c76]; rfl) | (rw [mra_n i0.1 c76]; rw [Int.add_zero]; rfl), rfl, rfl, trivial⟩ | exact jr_sub (ih45 _ (i + 1) _ (by omega) (by omega) (by subst e139_3; exact c19_t hu (bdw_c _ _ _ _ _)) (by rw [VCc_s i0.1]; rcases hy with ⟨y1, y2⟩ | ⟨y1, y2⟩ <;> first | (exfalso; omega) | exact Or.inl ⟨rfl, y2, fun a b => by first | exact c108 | exact absurd a c76 | exact absurd b c98⟩ | exact Or.inr ⟨rfl, fun q => y2 q.1⟩ | exact Or.inr ⟨rfl, fun q => c108 (q.2 c76 c98)⟩) (by subst e139_3; exact bdw_B (by omega) (by omega) (by omega) (by omega) (by omega) (by omega) (by omega) hb) (by subst e139_3; intro v; rw [bdw_S (by omega) (by omega) (by omega) (by omega) (by omega), hv v, KN_y i0.1 c125, and_assoc])) ⟨rfl, rfl, rfl, by first | (rw [mra_y i0.1 c76]; rfl) | (rw [mra_n i0.1 c76]; rw [Int.add_zero]; rfl), rfl, rfl, trivial⟩
                        · skip
                          refine jr_aload_n F dX8_layChoice_101 rfl ?_
                          refine jr_iload F dX8_layChoice_102 rfl ?_
                          refine jr_iload_n F dX8_layChoice_104 rfl ?_
                          refine jr_vI F dX8_layChoice_105 cv_X8_188 (c_X8_isKnown hMu (by omega) (by omega)) (Nat.le_of_ble_eq_true rfl) rfl rfl rfl rfl (Nat.le_of_ble_eq_true rfl) (Nat.le_of_ble_eq_true rfl) rfl (Nat.le_of_ble_eq_true rfl) ?_
                          refine jr_ifeq_b (tgt := 115) F dX8_layChoice_108 (by decide) (fun c108 => ?_) (fun c108 => ?_)
                          · skip
                            refine jr_iconst F dX8_layChoice_115 ?_
                            refine jr_istore F dX8_layChoice_116 (Nat.le_of_ble_eq_true rfl) rfl ?_
                            refine jr_aload_n F dX8_layChoice_118 rfl ?_
                            refine jr_iload F dX8_layChoice_119 rfl ?_
                            refine jr_iload_n F dX8_layChoice_121 rfl ?_
                            refine jr_vI F dX8_layChoice_122 cv_X8_188 (c_X8_isKnown hMu (by omega) (by omega)) (Nat.le_of_ble_eq_true rfl) rfl rfl rfl rfl (Nat.le_of_ble_eq_true rfl) (Nat.le_of_ble_eq_true rfl) rfl (Nat.le_of_ble_eq_true rfl) ?_
                            refine jr_ifeq_b (tgt := 142) F dX8_layChoice_125 (by decide) (fun c125 => ?_) (fun c125 => ?_)
                            · skip
                              refine jr_iinc F dX8_layChoice_142 rfl (Nat.le_of_ble_eq_true rfl) rfl ?_
                              refine jr_goto (tgt := 45) F dX8_layChoice_145 (by decide) ?_
                              first | exact jr_sub (ih45 _ (i + 1) _ (by omega) (by omega) hu (by rw [VCc_s i0.1]; rcases hy with ⟨y1, y2⟩ | ⟨y1, y2⟩ <;> first | (exfalso; omega) | exact Or.inl ⟨rfl, y2, fun a b => by first | exact c108 | exact absurd a c76 | exact absurd b c98⟩ | exact Or.inr ⟨rfl, fun q => y2 q.1⟩ | exact Or.inr ⟨rfl, fun q => c108 (q.2 c76 c98)⟩) hb (fun v => by rw [hv v, KN_n c125])) ⟨rfl, rfl, rfl, by first | (rw [mra_y i0.1 c76]; rfl) | (rw [mra_n i0.1 c76]; rw [Int.add_zero]; rfl), rfl, rfl, trivial⟩ | exact jr_sub (ih45 _ (i + 1) _ (by omega) (by omega) (by subst e139_3; exact c19_t hu (bdw_c _ _ _ _ _)) (by rw [VCc_s i0.1]; rcases hy with ⟨y1, y2⟩ | ⟨y1, y2⟩ <;> first | (exfalso; omega) | exact Or.inl ⟨rfl, y2, fun a b => by first | exact c108 | exact absurd a c76 | exact absurd b c98⟩ | exact Or.inr ⟨rfl, fun q => y2 q.1⟩ | exact Or.inr ⟨rfl, fun q => c108 (q.2 c76 c98)⟩) (by subst e139_3; exact bdw_B (by omega) (by omega) (by omega) (by omega) (by omega) (by omega) (by omega) hb) (by subst e139_3; intro v; rw [bdw_S (by omega) (by omega) (by omega) (by omega) (by omega), hv v, KN_y i0.1 c125, and_assoc])) ⟨rfl, rfl, rfl, by first | (rw [mra_y i0.1 c76]; rfl) | (rw [mra_n i0.1 c76]; rw [Int.add_zero]; rfl), rfl, rfl, trivial⟩
                            · skip
                              refine jr_aload_n F dX8_layChoice_128 rfl ?_
                              refine jr_bipush F dX8_layChoice_129 (by decide) ?_
                              refine jr_iload F dX8_layChoice_131 rfl ?_
                              refine jr_sipush F dX8_layChoice_133 (by decide) ?_
                              refine jr_sipush F dX8_layChoice_136 (by decide) ?_
                              refine jr_vVx F dX8_layChoice_139 cv_X8_193 (c_X8_bind (by omega) (by omega) (by omega) (by omega)) (Nat.le_of_ble_eq_true rfl) rfl rfl rfl rfl (Nat.le_of_ble_eq_true rfl) (Nat.le_of_ble_eq_true rfl) rfl (Nat.le_of_ble_eq_true rfl) (fun w139_4 e139_4 => ?_)
                              refine jr_iinc F dX8_layChoice_142 rfl (Nat.le_of_ble_eq_true rfl) rfl ?_
                              refine jr_goto (tgt := 45) F dX8_layChoice_145 (by decide) ?_
                              first | exact jr_sub (ih45 _ (i + 1) _ (by omega) (by omega) hu (by rw [VCc_s i0.1]; rcases hy with ⟨y1, y2⟩ | ⟨y1, y2⟩ <;> first | (exfalso; omega) | exact Or.inl ⟨rfl, y2, fun a b => by first | exact c108 | exact absurd a c76 | exact absurd b c98⟩ | exact Or.inr ⟨rfl, fun q => y2 q.1⟩ | exact Or.inr ⟨rfl, fun q => c108 (q.2 c76 c98)⟩) hb (fun v => by rw [hv v, KN_n c125])) ⟨rfl, rfl, rfl, by first | (rw [mra_y i0.1 c76]; rfl) | (rw [mra_n i0.1 c76]; rw [Int.add_zero]; rfl), rfl, rfl, trivial⟩ | exact jr_sub (ih45 _ (i + 1) _ (by omega) (by omega) (by subst e139_4; exact c19_t hu (bdw_c _ _ _ _ _)) (by rw [VCc_s i0.1]; rcases hy with ⟨y1, y2⟩ | ⟨y1, y2⟩ <;> first | (exfalso; omega) | exact Or.inl ⟨rfl, y2, fun a b => by first | exact c108 | exact absurd a c76 | exact absurd b c98⟩ | exact Or.inr ⟨rfl, fun q => y2 q.1⟩ | exact Or.inr ⟨rfl, fun q => c108 (q.2 c76 c98)⟩) (by subst e139_4; exact bdw_B (by omega) (by omega) (by omega) (by omega) (by omega) (by omega) (by omega) hb) (by subst e139_4; intro v; rw [bdw_S (by omega) (by omega) (by omega) (by omega) (by omega), hv v, KN_y i0.1 c125, and_assoc])) ⟨rfl, rfl, rfl, by first | (rw [mra_y i0.1 c76]; rfl) | (rw [mra_n i0.1 c76]; rw [Int.add_zero]; rfl), rfl, rfl, trivial⟩
                          · skip
                            refine jr_iconst F dX8_layChoice_111 ?_
                            refine jr_goto (tgt := 116) F dX8_layChoice_112 (by decide) ?_
                            refine jr_istore F dX8_layChoice_116 (Nat.le_of_ble_eq_true rfl) rfl ?_
                            refine jr_aload_n F dX8_layChoice_118 rfl ?_
                            refine jr_iload F dX8_layChoice_119 rfl ?_
                            refine jr_iload_n F dX8_layChoice_121 rfl ?_
                            refine jr_vI F dX8_layChoice_122 cv_X8_188 (c_X8_isKnown hMu (by omega) (by omega)) (Nat.le_of_ble_eq_true rfl) rfl rfl rfl rfl (Nat.le_of_ble_eq_true rfl) (Nat.le_of_ble_eq_true rfl) rfl (Nat.le_of_ble_eq_true rfl) ?_
                            refine jr_ifeq_b (tgt := 142) F dX8_layChoice_125 (by decide) (fun c125 => ?_) (fun c125 => ?_)
                            · skip
                              refine jr_iinc F dX8_layChoice_142 rfl (Nat.le_of_ble_eq_true rfl) rfl ?_
                              refine jr_goto (tgt := 45) F dX8_layChoice_145 (by decide) ?_
                              first | exact jr_sub (ih45 _ (i + 1) _ (by omega) (by omega) hu (by rw [VCc_s i0.1]; rcases hy with ⟨y1, y2⟩ | ⟨y1, y2⟩ <;> first | (exfalso; omega) | exact Or.inl ⟨rfl, y2, fun a b => by first | exact c108 | exact absurd a c76 | exact absurd b c98⟩ | exact Or.inr ⟨rfl, fun q => y2 q.1⟩ | exact Or.inr ⟨rfl, fun q => c108 (q.2 c76 c98)⟩) hb (fun v => by rw [hv v, KN_n c125])) ⟨rfl, rfl, rfl, by first | (rw [mra_y i0.1 c76]; rfl) | (rw [mra_n i0.1 c76]; rw [Int.add_zero]; rfl), rfl, rfl, trivial⟩ | exact jr_sub (ih45 _ (i + 1) _ (by omega) (by omega) (by subst e139_4; exact c19_t hu (bdw_c _ _ _ _ _)) (by rw [VCc_s i0.1]; rcases hy with ⟨y1, y2⟩ | ⟨y1, y2⟩ <;> first | (exfalso; omega) | exact Or.inl ⟨rfl, y2, fun a b => by first | exact c108 | exact absurd a c76 | exact absurd b c98⟩ | exact Or.inr ⟨rfl, fun q => y2 q.1⟩ | exact Or.inr ⟨rfl, fun q => c108 (q.2 c76 c98)⟩) (by subst e139_4; exact bdw_B (by omega) (by omega) (by omega) (by omega) (by omega) (by omega) (by omega) hb) (by subst e139_4; intro v; rw [bdw_S (by omega) (by omega) (by omega) (by omega) (by omega), hv v, KN_y i0.1 c125, and_assoc])) ⟨rfl, rfl, rfl, by first | (rw [mra_y i0.1 c76]; rfl) | (rw [mra_n i0.1 c76]; rw [Int.add_zero]; rfl), rfl, rfl, trivial⟩
                            · skip
                              refine jr_aload_n F dX8_layChoice_128 rfl ?_
                              refine jr_bipush F dX8_layChoice_129 (by decide) ?_
                              refine jr_iload F dX8_layChoice_131 rfl ?_
                              refine jr_sipush F dX8_layChoice_133 (by decide) ?_
                              refine jr_sipush F dX8_layChoice_136 (by decide) ?_
                              refine jr_vVx F dX8_layChoice_139 cv_X8_193 (c_X8_bind (by omega) (by omega) (by omega) (by omega)) (Nat.le_of_ble_eq_true rfl) rfl rfl rfl rfl (Nat.le_of_ble_eq_true rfl) (Nat.le_of_ble_eq_true rfl) rfl (Nat.le_of_ble_eq_true rfl) (fun w139_5 e139_5 => ?_)
                              refine jr_iinc F dX8_layChoice_142 rfl (Nat.le_of_ble_eq_true rfl) rfl ?_
                              refine jr_goto (tgt := 45) F dX8_layChoice_145 (by decide) ?_
                              first | exact jr_sub (ih45 _ (i + 1) _ (by omega) (by omega) hu (by rw [VCc_s i0.1]; rcases hy with ⟨y1, y2⟩ | ⟨y1, y2⟩ <;> first | (exfalso; omega) | exact Or.inl ⟨rfl, y2, fun a b => by first | exact c108 | exact absurd a c76 | exact absurd b c98⟩ | exact Or.inr ⟨rfl, fun q => y2 q.1⟩ | exact Or.inr ⟨rfl, fun q => c108 (q.2 c76 c98)⟩) hb (fun v => by rw [hv v, KN_n c125])) ⟨rfl, rfl, rfl, by first | (rw [mra_y i0.1 c76]; rfl) | (rw [mra_n i0.1 c76]; rw [Int.add_zero]; rfl), rfl, rfl, trivial⟩ | exact jr_sub (ih45 _ (i + 1) _ (by omega) (by omega) (by subst e139_5; exact c19_t hu (bdw_c _ _ _ _ _)) (by rw [VCc_s i0.1]; rcases hy with ⟨y1, y2⟩ | ⟨y1, y2⟩ <;> first | (exfalso; omega) | exact Or.inl ⟨rfl, y2, fun a b => by first | exact c108 | exact absurd a c76 | exact absurd b c98⟩ | exact Or.inr ⟨rfl, fun q => y2 q.1⟩ | exact Or.inr ⟨rfl, fun q => c108 (q.2 c76 c98)⟩) (by subst e139_5; exact bdw_B (by omega) (by omega) (by omega) (by omega) (by omega) (by omega) (by omega) hb) (by subst e139_5; intro v; rw [bdw_S (by omega) (by omega) (by omega) (by omega) (by omega), hv v, KN_y i0.1 c125, and_assoc])) ⟨rfl, rfl, rfl, by first | (rw [mra_y i0.1 c76]; rfl) | (rw [mra_n i0.1 c76]; rw [Int.add_zero]; rfl), rfl, rfl, trivial⟩
          exact jr_sub (L45 _ u 0 1 (Nat.lt_succ_self _) (by omega) hu (Or.inl ⟨rfl, fun r a b => by omega⟩) (M0_B h0) (M0_S h0)) ⟨rfl, rfl, rfl, rfl, rfl, rfl, trivial⟩
        · skip
          refine jr_aload_n F dX8_layChoice_15 rfl ?_
          refine jr_getR (t := 19) F dX8_layChoice_16 fg_X8_66 (Nat.le_of_ble_eq_true rfl) rfl rfl ?_
          refine jr_iload F dX8_layChoice_19 rfl ?_
          refine jr_iload F dX8_layChoice_21 rfl ?_
          refine jr_bipush F dX8_layChoice_23 (by decide) ?_
          refine jr_irem F dX8_layChoice_25 (by omega) (by omega) (by omega) (by omega) ?_
          refine jr_if_ne (tgt := 33) F dX8_layChoice_26 (by decide) (fun c26 => ?_) (fun c26 => ?_) (by omega)
          · skip
            refine jr_ldc (z := 1000000) F dX8_layChoice_33 (tb_in 1196 (by decide +kernel) (by decide +kernel)) ?_
            refine jr_iastx F dX8_layChoice_35 (Nat.le_of_ble_eq_true rfl) rfl (by omega) (fun w35 e35 => ?_) (by omega) (by omega) (by omega)
            refine jr_iinc F dX8_layChoice_36 rfl (Nat.le_of_ble_eq_true rfl) rfl ?_
            refine jr_goto (tgt := 8) F dX8_layChoice_39 (by decide) ?_
            exact jr_sub (ih8 _ (i + 1) (by omega) (by omega) (by rw [e35]; exact c19_up hu _ _) (by rw [e35]; exact M0_s h0 (by first | (rw [if_pos (by omega)]; done) | (rw [if_neg (by omega)])))) ⟨rfl, rfl, rfl, rfl, rfl, rfl, trivial⟩
          · skip
            refine jr_iconst F dX8_layChoice_29 ?_
            refine jr_goto (tgt := 35) F dX8_layChoice_30 (by decide) ?_
            refine jr_iastx F dX8_layChoice_35 (Nat.le_of_ble_eq_true rfl) rfl (by omega) (fun w35_1 e35_1 => ?_) (by omega) (by omega) (by omega)
            refine jr_iinc F dX8_layChoice_36 rfl (Nat.le_of_ble_eq_true rfl) rfl ?_
            refine jr_goto (tgt := 8) F dX8_layChoice_39 (by decide) ?_
            exact jr_sub (ih8 _ (i + 1) (by omega) (by omega) (by rw [e35_1]; exact c19_up hu _ _) (by rw [e35_1]; exact M0_s h0 (by first | (rw [if_pos (by omega)]; done) | (rw [if_neg (by omega)])))) ⟨rfl, rfl, rfl, rfl, rfl, rfl, trivial⟩
  exact jr_sub (L8 _ _ 0 (Nat.lt_succ_self _) (by omega) (c19_r m) (fun j a b => by omega)) ⟨rfl, rfl, rfl, rfl, rfl, rfl, trivial⟩

