/-- the digest so far -/
def DG (m x : Wd) (D : Int) : Prop := sm m x ∧ Int64.ofInt (x 0 33) = Int64.ofInt D
theorem DG_s {m x : Wd} {D v : Int} (h : DG m x D) : DG m (up x 0 33 (wrL (31 * x 0 33 + v))) (31 * D + v) := by
  obtain ⟨a, b⟩ := h
  refine ⟨⟨fun c p q => by rw [up_cell (by omega)]; exact a.1 c p q, by rw [up_ne (by omega)]; exact a.2.1, by rw [up_ne (by omega)]; exact a.2.2.1, by rw [up_ne (by omega)]; exact a.2.2.2.1, by rw [up_ne (by omega)]; exact a.2.2.2.2.1, by rw [up_ne (by omega)]; exact a.2.2.2.2.2⟩, ?_⟩
  rw [up_self, ← wrL_e, Int64.ofInt_add, Int64.ofInt_mul, b, ← Int64.ofInt_mul, ← Int64.ofInt_add]
theorem DG_w {m x u : Wd} {D : Int} (h : DG m x D) (g : ws x u) : DG m u D := ⟨sm_t h.1 g.1, by rw [g.2.2.2]; exact h.2⟩
theorem DG_e {m x : Wd} {D E : Int} (h : DG m x D) (e : D = E) : DG m x E := e ▸ h
noncomputable def dgV (w : Wd) (h k : Int) : Int := dgWf w (k / 5) (k % 5).toNat (dgW w (k / 5).toNat h)
theorem dgV_s {w : Wd} {h k : Int} (k0 : 0 ≤ k) : dgV w h (k + 1) = 31 * dgV w h k + wfa w (k / 5) (k % 5 + 1) := by
  unfold dgV
  rcases (show k % 5 = 4 ∨ k % 5 < 4 by omega) with q | q
  · have e1 : (k + 1) / 5 = k / 5 + 1 := by omega
    have e2 : (k + 1) % 5 = 0 := by omega
    rw [e1, e2, show (0 : Int).toNat = 0 from rfl, dgWf, dgW_s (by omega), q, show (5 : Nat) = (4 : Int).toNat + 1 from rfl, dgWf]
    rfl
  · have e1 : (k + 1) / 5 = k / 5 := by omega
    have e2 : (k + 1) % 5 = k % 5 + 1 := by omega
    rw [e1, e2, show (k % 5 + 1).toNat = (k % 5).toNat + 1 by omega, dgWf, Int.toNat_of_nonneg (by omega)]
theorem dgV_e {w : Wd} {h n : Int} (n0 : 0 ≤ n) : dgV w h (5 * n) = dgW w n.toNat h := by
  unfold dgV
  rw [show 5 * n / 5 = n by omega, show 5 * n % 5 = 0 by omega]
  rfl
theorem rmV {w m : Wd} (h : RM w m) {k : Int} (k0 : 0 ≤ k) (k1 : k < 30) : m 14 k = wfa w (k / 5) (k % 5 + 1) := by
  have a := rmW h (t := k / 5) (by omega) (by omega)
  rcases (show k % 5 = 0 ∨ k % 5 = 1 ∨ k % 5 = 2 ∨ k % 5 = 3 ∨ k % 5 = 4 by omega) with q | q | q | q | q
  · rw [q, show (0 : Int) + 1 = 1 by omega, ← a.1]; congr 1; omega
  · rw [q, show (1 : Int) + 1 = 2 by omega, ← a.2.1]; congr 1; omega
  · rw [q, show (2 : Int) + 1 = 3 by omega, ← a.2.2.1]; congr 1; omega
  · rw [q, show (3 : Int) + 1 = 4 by omega, ← a.2.2.2.1]; congr 1; omega
  · rw [q, show (4 : Int) + 1 = 5 by omega, ← a.2.2.2.2]; congr 1; omega

set_option maxRecDepth 100000 in
set_option maxHeartbeats 4000000 in
theorem c_X8_digest {B : Bs} {w m : Wd}  (hM : RM w m) (hI : IM w) (hp : 0 ≤ w 18 1 ∧ w 18 1 ≤ 60) (h8 : 0 ≤ w 0 8 ∧ w 0 8 ≤ 10) (hpg : ∀ i : Int, -128 ≤ pgl w i ∧ pgl w i ≤ 127) : Sp (GM B) 7 yX8_digest cX8_digest 3 (Option.some FieldType.long) [.ref (ga (GM B) (0))] m (pG (fun x u => x = digw w ∧ sm m u)) := by
  refine Sp.of (by decide) (Nat.le_of_ble_eq_true rfl) (fun X F => ?_)
  obtain ⟨⟨i1, i2, i3, i4, i5⟩, ⟨i6, i7⟩, i8, i9, i10, ⟨i11, i12⟩, i13⟩ := id hI
  have n10 := i1.1
  have h3 := i1.1
  have n8 := i3.1
  have n6 := i4.1
  show Jw (GM B) X _ 0 [some (.ref (ga (GM B) (0)))] [] m
  refine jr_aload_n F dX8_digest_0 rfl ?_
  refine jr_ldc2 (z := 293) F dX8_digest_1 (tb_in 1297 (by decide +kernel) (by decide +kernel)) ?_
  refine jr_putLx F dX8_digest_4 fp_X8_254 (Nat.le_of_ble_eq_true rfl) rfl rfl (by omega) (fun w4 e4 => ?_)
  refine jr_iconst F dX8_digest_7 ?_
  refine jr_istore_n F dX8_digest_8 (Nat.le_of_ble_eq_true rfl) rfl ?_
  have L9 : ∀ (fuel : Nat) (a : Wd) (i : Int), (w 1 3 - i).toNat < fuel → (0 ≤ i ∧ i ≤ w 1 3) → (DG m a (dgR w i.toNat 293)) → Jw (GM B) X (pG (fun x u => x = digw w ∧ sm m u)) 9 [some (.ref (ga (GM B) 0)), some (iv i)] [] a := by
    intro fuel
    induction fuel with
    | zero => intro a i hfuel; exact absurd hfuel (Nat.not_lt_zero _)
    | succ fuel ih9 =>
        intro a i hfuel i0 ha
        have Ma : RM w a := sm_RM ha.1 hM
        refine jr_iload_n F dX8_digest_9 rfl ?_
        refine jr_aload_n F dX8_digest_10 rfl ?_
        refine jr_getIx F (w 1 3) dX8_digest_11 fg_X8_84 (Nat.le_of_ble_eq_true rfl) rfl rfl ((show a 0 0 = (w 1 3) from rn0 Ma)) (fun q11 => ?_)
        refine jr_icmp_ge (tgt := 59) F dX8_digest_14 (by decide) (fun c14 => ?_) (fun c14 => ?_) (by omega) (by omega)
        · skip
          refine jr_iconst F dX8_digest_59 ?_
          refine jr_istore_n F dX8_digest_60 (Nat.le_of_ble_eq_true rfl) rfl ?_
          have L61 : ∀ (fuel : Nat) (a : Wd) (t : Int), (w 5 3 - t).toNat < fuel → (0 ≤ t ∧ t ≤ w 5 3) → (DG m a (dgT w t.toNat (dgR w (w 1 3).toNat 293))) → Jw (GM B) X (pG (fun x u => x = digw w ∧ sm m u)) 61 [some (.ref (ga (GM B) 0)), some (iv t)] [] a := by
            intro fuel
            induction fuel with
            | zero => intro a t hfuel; exact absurd hfuel (Nat.not_lt_zero _)
            | succ fuel ih61 =>
                intro a t hfuel t0 ha
                have Ma : RM w a := sm_RM ha.1 hM
                refine jr_iload_n F dX8_digest_61 rfl ?_
                refine jr_aload_n F dX8_digest_62 rfl ?_
                refine jr_getIx F (w 5 3) dX8_digest_63 fg_X8_122 (Nat.le_of_ble_eq_true rfl) rfl rfl ((show a 0 8 = (w 5 3) from rn8 Ma)) (fun q63 => ?_)
                refine jr_icmp_ge (tgt := 146) F dX8_digest_66 (by decide) (fun c66 => ?_) (fun c66 => ?_) (by omega) (by omega)
                · skip
                  refine jr_iconst F dX8_digest_146 ?_
                  refine jr_istore_n F dX8_digest_147 (Nat.le_of_ble_eq_true rfl) rfl ?_
                  have L148 : ∀ (fuel : Nat) (a : Wd) (s : Int), (2 - s).toNat < fuel → (0 ≤ s ∧ s ≤ 2) → (DG m a (dgZ w s.toNat (dgT w (w 5 3).toNat (dgR w (w 1 3).toNat 293)))) → Jw (GM B) X (pG (fun x u => x = digw w ∧ sm m u)) 148 [some (.ref (ga (GM B) 0)), some (iv s)] [] a := by
                    intro fuel
                    induction fuel with
                    | zero => intro a s hfuel; exact absurd hfuel (Nat.not_lt_zero _)
                    | succ fuel ih148 =>
                        intro a s hfuel s0 ha
                        have Ma : RM w a := sm_RM ha.1 hM
                        refine jr_iload_n F dX8_digest_148 rfl ?_
                        refine jr_iconst F dX8_digest_149 ?_
                        refine jr_icmp_ge (tgt := 256) F dX8_digest_150 (by decide) (fun c150 => ?_) (fun c150 => ?_) (by omega) (by omega)
                        · skip
                          refine jr_iconst F dX8_digest_256 ?_
                          refine jr_istore_n F dX8_digest_257 (Nat.le_of_ble_eq_true rfl) rfl ?_
                          have L258 : ∀ (fuel : Nat) (b : Wd) (k : Int), (5 * w 8 3 - k).toNat < fuel → (0 ≤ k ∧ k ≤ 5 * w 8 3) → (DG m b (dgV w (dgZ w 2 (dgT w (w 5 3).toNat (dgR w (w 1 3).toNat 293))) k)) → Jw (GM B) X (pG (fun x u => x = digw w ∧ sm m u)) 258 [some (.ref (ga (GM B) 0)), some (iv k)] [] b := by
                            intro fuel
                            induction fuel with
                            | zero => intro b k hfuel; exact absurd hfuel (Nat.not_lt_zero _)
                            | succ fuel ih258 =>
                                intro b k hfuel k0 hb
                                have Mb : RM w b := sm_RM hb.1 hM
                                refine jr_iload_n F dX8_digest_258 rfl ?_
                                refine jr_iconst F dX8_digest_259 ?_
                                refine jr_aload_n F dX8_digest_260 rfl ?_
                                refine jr_getIx F (w 8 3) dX8_digest_261 fg_X8_237 (Nat.le_of_ble_eq_true rfl) rfl rfl ((show b 0 16 = (w 8 3) from rn16 Mb)) (fun q261 => ?_)
                                refine jr_imul F dX8_digest_264 ?_
                                refine jr_icmp_ge (tgt := 285) F dX8_digest_265 (by decide) (fun c265 => ?_) (fun c265 => ?_) (by omega) (by omega)
                                · skip
                                  refine jr_iconst F dX8_digest_285 ?_
                                  refine jr_istore_n F dX8_digest_286 (Nat.le_of_ble_eq_true rfl) rfl ?_
                                  have L287 : ∀ (fuel : Nat) (c : Wd) (k : Int), (w 18 1 - k).toNat < fuel → (0 ≤ k ∧ k ≤ w 18 1) → (DG m c (dgP w k.toNat (dgW w (w 8 3).toNat (dgZ w 2 (dgT w (w 5 3).toNat (dgR w (w 1 3).toNat 293)))))) → Jw (GM B) X (pG (fun x u => x = digw w ∧ sm m u)) 287 [some (.ref (ga (GM B) 0)), some (iv k)] [] c := by
                                    intro fuel
                                    induction fuel with
                                    | zero => intro c k hfuel; exact absurd hfuel (Nat.not_lt_zero _)
                                    | succ fuel ih287 =>
                                        intro c k hfuel k0 hc
                                        have Mc : RM w c := sm_RM hc.1 hM
                                        refine jr_iload_n F dX8_digest_287 rfl ?_
                                        refine jr_aload_n F dX8_digest_288 rfl ?_
                                        refine jr_getIx F (w 18 1) dX8_digest_289 fg_X8_140 (Nat.le_of_ble_eq_true rfl) rfl rfl ((show c 0 11 = (w 18 1) from rn11 Mc)) (fun q289 => ?_)
                                        refine jr_icmp_ge (tgt := 312) F dX8_digest_292 (by decide) (fun c292 => ?_) (fun c292 => ?_) (by omega) (by omega)
                                        · skip
                                          refine jr_iconst F dX8_digest_312 ?_
                                          refine jr_istore_n F dX8_digest_313 (Nat.le_of_ble_eq_true rfl) rfl ?_
                                          have L314 : ∀ (fuel : Nat) (d : Wd) (k : Int), (7 - k).toNat < fuel → (0 ≤ k ∧ k ≤ 7) → (DG m d (dgK w k.toNat (dgP w (w 18 1).toNat (dgW w (w 8 3).toNat (dgZ w 2 (dgT w (w 5 3).toNat (dgR w (w 1 3).toNat 293))))))) → Jw (GM B) X (pG (fun x u => x = digw w ∧ sm m u)) 314 [some (.ref (ga (GM B) 0)), some (iv k)] [] d := by
                                            intro fuel
                                            induction fuel with
                                            | zero => intro d k hfuel; exact absurd hfuel (Nat.not_lt_zero _)
                                            | succ fuel ih314 =>
                                                intro d k hfuel k0 hd
                                                have Md : RM w d := sm_RM hd.1 hM
                                                refine jr_iload_n F dX8_digest_314 rfl ?_
                                                refine jr_bipush F dX8_digest_315 (by decide) ?_
                                                refine jr_icmp_ge (tgt := 336) F dX8_digest_317 (by decide) (fun c317 => ?_) (fun c317 => ?_) (by omega) (by omega)
                                                · skip
                                                  refine jr_aload_n F dX8_digest_336 rfl ?_
                                                  refine jr_getLx F (d 0 33) dX8_digest_337 fg_X8_254 (Nat.le_of_ble_eq_true rfl) rfl rfl rfl (fun q337 => ?_)
                                                  have hD := hd.2
                                                  exact jr_lret F dX8_digest_340 (show pG (fun x u => x = digw w ∧ sm m u) (some (lq (d 0 33))) d from ⟨digw w, by show some (Value.long (Int64.ofInt (d 0 33))) = some (Value.long (Int64.ofInt (digw w))); rw [hD, show k = 7 by omega]; rfl, rfl, hd.1⟩)
                                                · skip
                                                  refine jr_aload_n F dX8_digest_320 rfl ?_
                                                  refine jr_aload_n F dX8_digest_321 rfl ?_
                                                  have kR := couw_R n10 n8 i11 i12 hp n6 h8 k
                                                  refine jr_iload_n F dX8_digest_322 rfl ?_
                                                  refine jr_vI F dX8_digest_323 cv_X8_249 (c_X8_howMany Md (by omega)) (Nat.le_of_ble_eq_true rfl) rfl rfl rfl rfl (Nat.le_of_ble_eq_true rfl) (Nat.le_of_ble_eq_true rfl) rfl (Nat.le_of_ble_eq_true rfl) ?_
                                                  refine jr_i2l F dX8_digest_326 (by omega) ?_
                                                  refine jr_vVx F dX8_digest_327 cv_X8_260 (c_X8_mix) (Nat.le_of_ble_eq_true rfl) rfl rfl rfl rfl (Nat.le_of_ble_eq_true rfl) (Nat.le_of_ble_eq_true rfl) rfl (Nat.le_of_ble_eq_true rfl) (fun w327 e327 => ?_)
                                                  refine jr_iinc F dX8_digest_330 rfl (Nat.le_of_ble_eq_true rfl) rfl ?_
                                                  refine jr_goto (tgt := 314) F dX8_digest_333 (by decide) ?_
                                                  exact jr_sub (ih314 _ (k + 1) (by omega) (by omega) (by rw [e327]; exact DG_e (DG_s hd) (by rw [dgK_s k0.1]))) ⟨rfl, rfl, trivial⟩
                                          exact jr_sub (L314 _ _ 0 (Nat.lt_succ_self _) (by omega) (DG_e hc (by rw [show k = w 18 1 by omega]; rfl))) ⟨rfl, rfl, trivial⟩
                                        · skip
                                          refine jr_aload_n F dX8_digest_295 rfl ?_
                                          refine jr_aload_n F dX8_digest_296 rfl ?_
                                          have pk := hpg k
                                          refine jr_getR (t := 10) F dX8_digest_297 fg_X8_37 (Nat.le_of_ble_eq_true rfl) rfl rfl ?_
                                          refine jr_iload_n F dX8_digest_300 rfl ?_
                                          refine jr_bald F dX8_digest_301 (Nat.le_of_ble_eq_true rfl) rfl (by omega) (fun q301 => ?_) (by omega) (by omega)
                                          have v301 : c 10 (k) = (pgl w k) := (rmP Mc (i := k) (by omega) (by omega))
                                          rw [v301] at q301
                                          refine jr_ti v301 ?_
                                          refine jr_i2l F dX8_digest_302 (by omega) ?_
                                          refine jr_vVx F dX8_digest_303 cv_X8_260 (c_X8_mix) (Nat.le_of_ble_eq_true rfl) rfl rfl rfl rfl (Nat.le_of_ble_eq_true rfl) (Nat.le_of_ble_eq_true rfl) rfl (Nat.le_of_ble_eq_true rfl) (fun w303 e303 => ?_)
                                          refine jr_iinc F dX8_digest_306 rfl (Nat.le_of_ble_eq_true rfl) rfl ?_
                                          refine jr_goto (tgt := 287) F dX8_digest_309 (by decide) ?_
                                          exact jr_sub (ih287 _ (k + 1) (by omega) (by omega) (by rw [e303]; exact DG_e (DG_s hc) (by rw [dgP_s k0.1]))) ⟨rfl, rfl, trivial⟩
                                  exact jr_sub (L287 _ _ 0 (Nat.lt_succ_self _) (by omega) (DG_e hb (by rw [show k = 5 * w 8 3 by omega, dgV_e (by omega)]; rfl))) ⟨rfl, rfl, trivial⟩
                                · skip
                                  refine jr_aload_n F dX8_digest_268 rfl ?_
                                  refine jr_aload_n F dX8_digest_269 rfl ?_
                                  have wt := i4.2 (k / 5) (by omega) (by omega)
                                  have wv := wt.1.2.2 (k % 5 + 1) (by omega) (by omega)
                                  refine jr_getR (t := 14) F dX8_digest_270 fg_X8_50 (Nat.le_of_ble_eq_true rfl) rfl rfl ?_
                                  refine jr_iload_n F dX8_digest_273 rfl ?_
                                  refine jr_iald F dX8_digest_274 (Nat.le_of_ble_eq_true rfl) rfl (by omega) (fun q274 => ?_) (by omega) (by omega)
                                  refine jr_ti (b := (wfa w (k / 5) (k % 5 + 1))) (rmV Mb (by omega) (by omega)) ?_
                                  refine jr_i2l F dX8_digest_275 (by omega) ?_
                                  refine jr_vVx F dX8_digest_276 cv_X8_260 (c_X8_mix) (Nat.le_of_ble_eq_true rfl) rfl rfl rfl rfl (Nat.le_of_ble_eq_true rfl) (Nat.le_of_ble_eq_true rfl) rfl (Nat.le_of_ble_eq_true rfl) (fun w276 e276 => ?_)
                                  refine jr_iinc F dX8_digest_279 rfl (Nat.le_of_ble_eq_true rfl) rfl ?_
                                  refine jr_goto (tgt := 258) F dX8_digest_282 (by decide) ?_
                                  exact jr_sub (ih258 _ (k + 1) (by omega) (by omega) (by rw [e276]; exact DG_e (DG_s hb) (by rw [dgV_s k0.1]))) ⟨rfl, rfl, trivial⟩
                          exact jr_sub (L258 _ _ 0 (Nat.lt_succ_self _) (by omega) (DG_e ha (by rw [show s = 2 by omega]; rfl))) ⟨rfl, rfl, trivial⟩
                        · skip
                          refine jr_iconst F dX8_digest_153 ?_
                          refine jr_istore_n F dX8_digest_154 (Nat.le_of_ble_eq_true rfl) rfl ?_
                          have L155 : ∀ (fuel : Nat) (b : Wd) (r : Int), (w 1 3 - r).toNat < fuel → (0 ≤ r ∧ r ≤ w 1 3) → (DG m b (dgC w s r.toNat (dgZ w s.toNat (dgT w (w 5 3).toNat (dgR w (w 1 3).toNat 293))))) → Jw (GM B) X (pG (fun x u => x = digw w ∧ sm m u)) 155 [some (.ref (ga (GM B) 0)), some (iv s), some (iv r)] [] b := by
                            intro fuel
                            induction fuel with
                            | zero => intro b r hfuel; exact absurd hfuel (Nat.not_lt_zero _)
                            | succ fuel ih155 =>
                                intro b r hfuel r0 hb
                                have Mb : RM w b := sm_RM hb.1 hM
                                refine jr_iload_n F dX8_digest_155 rfl ?_
                                refine jr_aload_n F dX8_digest_156 rfl ?_
                                refine jr_getIx F (w 1 3) dX8_digest_157 fg_X8_84 (Nat.le_of_ble_eq_true rfl) rfl rfl ((show b 0 0 = (w 1 3) from rn0 Mb)) (fun q157 => ?_)
                                refine jr_icmp_ge (tgt := 180) F dX8_digest_160 (by decide) (fun c160 => ?_) (fun c160 => ?_) (by omega) (by omega)
                                · skip
                                  refine jr_iconst F dX8_digest_180 ?_
                                  refine jr_istore_n F dX8_digest_181 (Nat.le_of_ble_eq_true rfl) rfl ?_
                                  have L182 : ∀ (fuel : Nat) (c : Wd) (q : Int), (w 5 3 - q).toNat < fuel → (0 ≤ q ∧ q ≤ w 5 3) → (DG m c (dgB w s q.toNat (dgC w s (w 1 3).toNat (dgZ w s.toNat (dgT w (w 5 3).toNat (dgR w (w 1 3).toNat 293)))))) → Jw (GM B) X (pG (fun x u => x = digw w ∧ sm m u)) 182 [some (.ref (ga (GM B) 0)), some (iv s), some (iv q)] [] c := by
                                    intro fuel
                                    induction fuel with
                                    | zero => intro c q hfuel; exact absurd hfuel (Nat.not_lt_zero _)
                                    | succ fuel ih182 =>
                                        intro c q hfuel q0 hc
                                        have Mc : RM w c := sm_RM hc.1 hM
                                        refine jr_iload_n F dX8_digest_182 rfl ?_
                                        refine jr_aload_n F dX8_digest_183 rfl ?_
                                        refine jr_getIx F (w 5 3) dX8_digest_184 fg_X8_122 (Nat.le_of_ble_eq_true rfl) rfl rfl ((show c 0 8 = (w 5 3) from rn8 Mc)) (fun q184 => ?_)
                                        refine jr_icmp_ge (tgt := 207) F dX8_digest_187 (by decide) (fun c187 => ?_) (fun c187 => ?_) (by omega) (by omega)
                                        · skip
                                          obtain rfl : q = w 5 3 := by omega
                                          have B215 := blB_R i3 s 9
                                          refine jr_aload_n F dX8_digest_207 rfl ?_
                                          refine jr_iload_n F dX8_digest_208 rfl ?_
                                          refine jr_bipush F dX8_digest_209 (by decide) ?_
                                          refine jr_aload_n F dX8_digest_211 rfl ?_
                                          refine jr_iload_n F dX8_digest_212 rfl ?_
                                          refine jr_bipush F dX8_digest_213 (by decide) ?_
                                          refine jr_vE F dX8_digest_215 cv_X8_219 (c_X8_tiesOf Mc i3 i5 n10 i11 i12 i13 (by omega) (by omega)) (Nat.le_of_ble_eq_true rfl) rfl rfl rfl rfl (Nat.le_of_ble_eq_true rfl) (Nat.le_of_ble_eq_true rfl) rfl (Nat.le_of_ble_eq_true rfl) (fun r215 w215 h215 => ?_)
                                          have M215 : RM w w215 := wk_RM h215.2 Mc
                                          rw [h215.1]
                                          refine jr_iconst F dX8_digest_218 ?_
                                          refine jr_vU F dX8_digest_219 cv_X8_222 (c_X8_solve M215 hI (by omega) (by omega) (by omega) (by omega) (KB_b s 9)) (Nat.le_of_ble_eq_true rfl) rfl rfl rfl rfl (Nat.le_of_ble_eq_true rfl) (Nat.le_of_ble_eq_true rfl) rfl (Nat.le_of_ble_eq_true rfl) (fun w219 h219 => ?_)
                                          have M219 : RM w w219 := ws_RM h219.1 M215
                                          have D219 := DG_w (DG_w hc (wk_ws h215.2)) h219.1
                                          refine jr_aload_n F dX8_digest_222 rfl ?_
                                          refine jr_aload_n F dX8_digest_223 rfl ?_
                                          refine jr_getZx F (bi (hasL w s 9 (blB w s 9) (-1))) dX8_digest_224 fg_X8_201 (Nat.le_of_ble_eq_true rfl) rfl rfl h219.2.1.1 (fun q224 => ?_)
                                          refine jr_ifeq_b (tgt := 234) F dX8_digest_227 (by decide) (fun c227 => ?_) (fun c227 => ?_)
                                          · skip
                                            refine jr_lconst (z := 0) F dX8_digest_234 (by decide) ?_
                                            refine jr_vVx F dX8_digest_235 cv_X8_260 (c_X8_mix) (Nat.le_of_ble_eq_true rfl) rfl rfl rfl rfl (Nat.le_of_ble_eq_true rfl) (Nat.le_of_ble_eq_true rfl) rfl (Nat.le_of_ble_eq_true rfl) (fun w235 e235 => ?_)
                                            have D235 : DG m w235 (31 * dgY w s (dgZ w s.toNat (dgT w (w 5 3).toNat (dgR w (w 1 3).toNat 293))) + canw w s 9) := by rw [e235]; exact DG_e (DG_s D219) (by unfold canw dgY; rw [refq_y (by omega) (by omega), if_pos rfl]; first | (rw [bi_t c227]; done) | (rw [bi_f c227]; done))
                                            have M235 : RM w w235 := sm_RM D235.1 hM
                                            refine jr_aload_n F dX8_digest_238 rfl ?_
                                            refine jr_aload_n F dX8_digest_239 rfl ?_
                                            refine jr_iload_n F dX8_digest_240 rfl ?_
                                            refine jr_bipush F dX8_digest_241 (by decide) ?_
                                            refine jr_vE F dX8_digest_243 cv_X8_231 (c_X8_floatsOf M235 hI (by omega) (by omega)) (Nat.le_of_ble_eq_true rfl) rfl rfl rfl rfl (Nat.le_of_ble_eq_true rfl) (Nat.le_of_ble_eq_true rfl) rfl (Nat.le_of_ble_eq_true rfl) (fun r243 w243 h243 => ?_)
                                            have D243 := DG_w D235 (wk_ws h243.2)
                                            rw [show r243 = flqw w s 9 from by rw [h243.1]; unfold flqw; rw [refq_y (by omega) (by omega), if_pos rfl]]
                                            have fR := flqw_R (w := w) n10.2 s 9
                                            refine jr_i2l F dX8_digest_246 (by omega) ?_
                                            refine jr_vVx F dX8_digest_247 cv_X8_260 (c_X8_mix) (Nat.le_of_ble_eq_true rfl) rfl rfl rfl rfl (Nat.le_of_ble_eq_true rfl) (Nat.le_of_ble_eq_true rfl) rfl (Nat.le_of_ble_eq_true rfl) (fun w247 e247 => ?_)
                                            refine jr_iinc F dX8_digest_250 rfl (Nat.le_of_ble_eq_true rfl) rfl ?_
                                            refine jr_goto (tgt := 148) F dX8_digest_253 (by decide) ?_
                                            exact jr_sub (ih148 _ (s + 1) (by omega) (by omega) (by (first | rw [e247] | rw [e247_1]); exact DG_e (DG_s D243) (by rw [dgZ_s s0.1]))) ⟨rfl, rfl, trivial⟩
                                          · skip
                                            refine jr_lconst (z := 1) F dX8_digest_230 (by decide) ?_
                                            refine jr_goto (tgt := 235) F dX8_digest_231 (by decide) ?_
                                            refine jr_vVx F dX8_digest_235 cv_X8_260 (c_X8_mix) (Nat.le_of_ble_eq_true rfl) rfl rfl rfl rfl (Nat.le_of_ble_eq_true rfl) (Nat.le_of_ble_eq_true rfl) rfl (Nat.le_of_ble_eq_true rfl) (fun w235_1 e235_1 => ?_)
                                            have D235 : DG m w235_1 (31 * dgY w s (dgZ w s.toNat (dgT w (w 5 3).toNat (dgR w (w 1 3).toNat 293))) + canw w s 9) := by rw [e235_1]; exact DG_e (DG_s D219) (by unfold canw dgY; rw [refq_y (by omega) (by omega), if_pos rfl]; first | (rw [bi_t c227]; done) | (rw [bi_f c227]; done))
                                            have M235 : RM w w235_1 := sm_RM D235.1 hM
                                            refine jr_aload_n F dX8_digest_238 rfl ?_
                                            refine jr_aload_n F dX8_digest_239 rfl ?_
                                            refine jr_iload_n F dX8_digest_240 rfl ?_
                                            refine jr_bipush F dX8_digest_241 (by decide) ?_
                                            refine jr_vE F dX8_digest_243 cv_X8_231 (c_X8_floatsOf M235 hI (by omega) (by omega)) (Nat.le_of_ble_eq_true rfl) rfl rfl rfl rfl (Nat.le_of_ble_eq_true rfl) (Nat.le_of_ble_eq_true rfl) rfl (Nat.le_of_ble_eq_true rfl) (fun r243 w243 h243 => ?_)
                                            have D243 := DG_w D235 (wk_ws h243.2)
                                            rw [show r243 = flqw w s 9 from by rw [h243.1]; unfold flqw; rw [refq_y (by omega) (by omega), if_pos rfl]]
                                            have fR := flqw_R (w := w) n10.2 s 9
                                            refine jr_i2l F dX8_digest_246 (by omega) ?_
                                            refine jr_vVx F dX8_digest_247 cv_X8_260 (c_X8_mix) (Nat.le_of_ble_eq_true rfl) rfl rfl rfl rfl (Nat.le_of_ble_eq_true rfl) (Nat.le_of_ble_eq_true rfl) rfl (Nat.le_of_ble_eq_true rfl) (fun w247_1 e247_1 => ?_)
                                            refine jr_iinc F dX8_digest_250 rfl (Nat.le_of_ble_eq_true rfl) rfl ?_
                                            refine jr_goto (tgt := 148) F dX8_digest_253 (by decide) ?_
                                            exact jr_sub (ih148 _ (s + 1) (by omega) (by omega) (by (first | rw [e247] | rw [e247_1]); exact DG_e (DG_s D243) (by rw [dgZ_s s0.1]))) ⟨rfl, rfl, trivial⟩
                                        · skip
                                          refine jr_aload_n F dX8_digest_190 rfl ?_
                                          refine jr_aload_n F dX8_digest_191 rfl ?_
                                          have tt := i3.2 q (by omega) (by omega)
                                          refine jr_iload_n F dX8_digest_192 rfl ?_
                                          refine jr_iload_n F dX8_digest_193 rfl ?_
                                          refine jr_vE F dX8_digest_194 cv_X8_185 (c_X8_believesOf Mc i11 i12 i13 (by omega) (by omega) (by omega)) (Nat.le_of_ble_eq_true rfl) rfl rfl rfl rfl (Nat.le_of_ble_eq_true rfl) (Nat.le_of_ble_eq_true rfl) rfl (Nat.le_of_ble_eq_true rfl) (fun r194 w194 h194 => ?_)
                                          rw [h194.1]
                                          have bR := blf_R i13 i11 i12 (s := s) (t := q) (by omega)
                                          refine jr_i2l F dX8_digest_197 (by omega) ?_
                                          refine jr_vVx F dX8_digest_198 cv_X8_260 (c_X8_mix) (Nat.le_of_ble_eq_true rfl) rfl rfl rfl rfl (Nat.le_of_ble_eq_true rfl) (Nat.le_of_ble_eq_true rfl) rfl (Nat.le_of_ble_eq_true rfl) (fun w198 e198 => ?_)
                                          refine jr_iinc F dX8_digest_201 rfl (Nat.le_of_ble_eq_true rfl) rfl ?_
                                          refine jr_goto (tgt := 182) F dX8_digest_204 (by decide) ?_
                                          exact jr_sub (ih182 _ (q + 1) (by omega) (by omega) (by rw [e198]; exact DG_e (DG_s (DG_w hc (wk_ws h194.2))) (by rw [dgB_s q0.1]))) ⟨rfl, rfl, rfl, trivial⟩
                                  exact jr_sub (L182 _ _ 0 (Nat.lt_succ_self _) (by omega) (DG_e hb (by rw [show r = w 1 3 by omega]; rfl))) ⟨rfl, rfl, rfl, trivial⟩
                                · skip
                                  refine jr_aload_n F dX8_digest_163 rfl ?_
                                  refine jr_aload_n F dX8_digest_164 rfl ?_
                                  have cc := IM_K hI (s := s) (by omega) r
                                  refine jr_iload_n F dX8_digest_165 rfl ?_
                                  refine jr_iload_n F dX8_digest_166 rfl ?_
                                  refine jr_vE F dX8_digest_167 cv_X8_182 (c_X8_countsOf Mb i11 i12 i13 (by omega) (by omega)) (Nat.le_of_ble_eq_true rfl) rfl rfl rfl rfl (Nat.le_of_ble_eq_true rfl) (Nat.le_of_ble_eq_true rfl) rfl (Nat.le_of_ble_eq_true rfl) (fun r167 w167 h167 => ?_)
                                  rw [h167.1]
                                  refine jr_i2l F dX8_digest_170 (by omega) ?_
                                  refine jr_vVx F dX8_digest_171 cv_X8_260 (c_X8_mix) (Nat.le_of_ble_eq_true rfl) rfl rfl rfl rfl (Nat.le_of_ble_eq_true rfl) (Nat.le_of_ble_eq_true rfl) rfl (Nat.le_of_ble_eq_true rfl) (fun w171 e171 => ?_)
                                  refine jr_iinc F dX8_digest_174 rfl (Nat.le_of_ble_eq_true rfl) rfl ?_
                                  refine jr_goto (tgt := 155) F dX8_digest_177 (by decide) ?_
                                  exact jr_sub (ih155 _ (r + 1) (by omega) (by omega) (by rw [e171]; exact DG_e (DG_s (DG_w hb (wk_ws h167.2))) (by rw [dgC_s r0.1]))) ⟨rfl, rfl, rfl, trivial⟩
                          exact jr_sub (L155 _ _ 0 (Nat.lt_succ_self _) (by omega) ha) ⟨rfl, rfl, rfl, trivial⟩
                  exact jr_sub (L148 _ _ 0 (Nat.lt_succ_self _) (by omega) (DG_e ha (by rw [show t = w 5 3 by omega]; rfl))) ⟨rfl, rfl, trivial⟩
                · skip
                  refine jr_iconst F dX8_digest_69 ?_
                  refine jr_istore_n F dX8_digest_70 (Nat.le_of_ble_eq_true rfl) rfl ?_
                  have L71 : ∀ (fuel : Nat) (b : Wd) (f : Int), (7 - f).toNat < fuel → (0 ≤ f ∧ f ≤ 7) → (DG m b (dgTf w t f.toNat (dgT w t.toNat (dgR w (w 1 3).toNat 293)))) → Jw (GM B) X (pG (fun x u => x = digw w ∧ sm m u)) 71 [some (.ref (ga (GM B) 0)), some (iv t), some (iv f)] [] b := by
                    intro fuel
                    induction fuel with
                    | zero => intro b f hfuel; exact absurd hfuel (Nat.not_lt_zero _)
                    | succ fuel ih71 =>
                        intro b f hfuel f0 hb
                        have Mb : RM w b := sm_RM hb.1 hM
                        refine jr_iload_n F dX8_digest_71 rfl ?_
                        refine jr_bipush F dX8_digest_72 (by decide) ?_
                        refine jr_icmp_ge (tgt := 99) F dX8_digest_74 (by decide) (fun c74 => ?_) (fun c74 => ?_) (by omega) (by omega)
                        · skip
                          refine jr_iconst F dX8_digest_99 ?_
                          refine jr_istore_n F dX8_digest_100 (Nat.le_of_ble_eq_true rfl) rfl ?_
                          have L101 : ∀ (fuel : Nat) (c : Wd) (j : Int), (3 - j).toNat < fuel → (0 ≤ j ∧ j ≤ 3) → (j = 0 ∨ tfa w t 0 = 1) → (DG m c (dgTy w t j.toNat (dgTf w t 7 (dgT w t.toNat (dgR w (w 1 3).toNat 293))))) → Jw (GM B) X (pG (fun x u => x = digw w ∧ sm m u)) 101 [some (.ref (ga (GM B) 0)), some (iv t), some (iv j)] [] c := by
                            intro fuel
                            induction fuel with
                            | zero => intro c j hfuel; exact absurd hfuel (Nat.not_lt_zero _)
                            | succ fuel ih101 =>
                                intro c j hfuel j0 j1 hc
                                have Mc : RM w c := sm_RM hc.1 hM
                                refine jr_iload_n F dX8_digest_101 rfl ?_
                                refine jr_iconst F dX8_digest_102 ?_
                                refine jr_icmp_ge (tgt := 140) F dX8_digest_103 (by decide) (fun c103 => ?_) (fun c103 => ?_) (by omega) (by omega)
                                · skip
                                  refine jr_iinc F dX8_digest_140 rfl (Nat.le_of_ble_eq_true rfl) rfl ?_
                                  refine jr_goto (tgt := 61) F dX8_digest_143 (by decide) ?_
                                  first | exact jr_sub (ih61 _ (t + 1) (by omega) (by omega) (DG_e hc (by rw [dgT_s t0.1, if_pos (by omega), show j = 3 by omega]; rfl))) ⟨rfl, rfl, trivial⟩ | exact jr_sub (ih61 _ (t + 1) (by omega) (by omega) (DG_e hc (by rw [dgT_s t0.1, if_neg (by omega), show j = 0 by omega]; rfl))) ⟨rfl, rfl, trivial⟩
                                · skip
                                  have tt := i3.2 t (by omega) (by omega)
                                  have ty := tt.1.2.2.2 j (by omega) (by omega)
                                  refine jr_aload_n F dX8_digest_106 rfl ?_
                                  refine jr_getR (t := 8) F dX8_digest_107 fg_X8_31 (Nat.le_of_ble_eq_true rfl) rfl rfl ?_
                                  refine jr_bipush F dX8_digest_110 (by decide) ?_
                                  refine jr_iload_n F dX8_digest_112 rfl ?_
                                  refine jr_imul F dX8_digest_113 ?_
                                  refine jr_iald F dX8_digest_114 (Nat.le_of_ble_eq_true rfl) rfl (by omega) (fun q114 => ?_) (by omega) (by omega)
                                  have v114 : c 8 ((7 * t)) = (tfa w t 0) := (rmT0 Mc (t := t) (by omega) (by omega))
                                  rw [v114] at q114
                                  refine jr_ti v114 ?_
                                  refine jr_iconst F dX8_digest_115 ?_
                                  refine jr_icmp_ne (tgt := 140) F dX8_digest_116 (by decide) (fun c116 => ?_) (fun c116 => ?_) (by omega) (by omega)
                                  · skip
                                    refine jr_iinc F dX8_digest_140 rfl (Nat.le_of_ble_eq_true rfl) rfl ?_
                                    refine jr_goto (tgt := 61) F dX8_digest_143 (by decide) ?_
                                    first | exact jr_sub (ih61 _ (t + 1) (by omega) (by omega) (DG_e hc (by rw [dgT_s t0.1, if_pos (by omega), show j = 3 by omega]; rfl))) ⟨rfl, rfl, trivial⟩ | exact jr_sub (ih61 _ (t + 1) (by omega) (by omega) (DG_e hc (by rw [dgT_s t0.1, if_neg (by omega), show j = 0 by omega]; rfl))) ⟨rfl, rfl, trivial⟩
                                  · skip
                                    refine jr_aload_n F dX8_digest_119 rfl ?_
                                    refine jr_aload_n F dX8_digest_120 rfl ?_
                                    refine jr_getR (t := 9) F dX8_digest_121 fg_X8_34 (Nat.le_of_ble_eq_true rfl) rfl rfl ?_
                                    refine jr_iconst F dX8_digest_124 ?_
                                    refine jr_iload_n F dX8_digest_125 rfl ?_
                                    refine jr_imul F dX8_digest_126 ?_
                                    refine jr_iload_n F dX8_digest_127 rfl ?_
                                    refine jr_iadd F dX8_digest_128 ?_
                                    refine jr_iald F dX8_digest_129 (Nat.le_of_ble_eq_true rfl) rfl (by omega) (fun q129 => ?_) (by omega) (by omega)
                                    refine jr_ti (b := (tyr w t j)) (rmY Mc (by omega) (by omega) (by omega) (by omega)) ?_
                                    refine jr_i2l F dX8_digest_130 (by omega) ?_
                                    refine jr_vVx F dX8_digest_131 cv_X8_260 (c_X8_mix) (Nat.le_of_ble_eq_true rfl) rfl rfl rfl rfl (Nat.le_of_ble_eq_true rfl) (Nat.le_of_ble_eq_true rfl) rfl (Nat.le_of_ble_eq_true rfl) (fun w131 e131 => ?_)
                                    refine jr_iinc F dX8_digest_134 rfl (Nat.le_of_ble_eq_true rfl) rfl ?_
                                    refine jr_goto (tgt := 101) F dX8_digest_137 (by decide) ?_
                                    exact jr_sub (ih101 _ (j + 1) (by omega) (by omega) (Or.inr (by omega)) (by rw [e131]; exact DG_e (DG_s hc) (by rw [dgTy_s j0.1]))) ⟨rfl, rfl, rfl, trivial⟩
                          exact jr_sub (L101 _ _ 0 (Nat.lt_succ_self _) (by omega) (Or.inl rfl) (DG_e hb (by rw [show f = 7 by omega]; rfl))) ⟨rfl, rfl, rfl, trivial⟩
                        · skip
                          refine jr_aload_n F dX8_digest_77 rfl ?_
                          refine jr_aload_n F dX8_digest_78 rfl ?_
                          have tt := i3.2 t (by omega) (by omega)
                          have tf := tt.1.2.2.1 f (by omega) (by omega)
                          refine jr_getR (t := 8) F dX8_digest_79 fg_X8_31 (Nat.le_of_ble_eq_true rfl) rfl rfl ?_
                          refine jr_bipush F dX8_digest_82 (by decide) ?_
                          refine jr_iload_n F dX8_digest_84 rfl ?_
                          refine jr_imul F dX8_digest_85 ?_
                          refine jr_iload_n F dX8_digest_86 rfl ?_
                          refine jr_iadd F dX8_digest_87 ?_
                          refine jr_iald F dX8_digest_88 (Nat.le_of_ble_eq_true rfl) rfl (by omega) (fun q88 => ?_) (by omega) (by omega)
                          refine jr_ti (b := (tfa w t f)) (rmT Mb (by omega) (by omega) (by omega) (by omega)) ?_
                          refine jr_i2l F dX8_digest_89 (by omega) ?_
                          refine jr_vVx F dX8_digest_90 cv_X8_260 (c_X8_mix) (Nat.le_of_ble_eq_true rfl) rfl rfl rfl rfl (Nat.le_of_ble_eq_true rfl) (Nat.le_of_ble_eq_true rfl) rfl (Nat.le_of_ble_eq_true rfl) (fun w90 e90 => ?_)
                          refine jr_iinc F dX8_digest_93 rfl (Nat.le_of_ble_eq_true rfl) rfl ?_
                          refine jr_goto (tgt := 71) F dX8_digest_96 (by decide) ?_
                          exact jr_sub (ih71 _ (f + 1) (by omega) (by omega) (by rw [e90]; exact DG_e (DG_s hb) (by rw [dgTf_s f0.1]))) ⟨rfl, rfl, rfl, trivial⟩
                  exact jr_sub (L71 _ _ 0 (Nat.lt_succ_self _) (by omega) ha) ⟨rfl, rfl, rfl, trivial⟩
          exact jr_sub (L61 _ _ 0 (Nat.lt_succ_self _) (by omega) (DG_e ha (by rw [show i = w 1 3 by omega]; rfl))) ⟨rfl, rfl, trivial⟩
        · skip
          refine jr_iconst F dX8_digest_17 ?_
          refine jr_istore_n F dX8_digest_18 (Nat.le_of_ble_eq_true rfl) rfl ?_
          have L19 : ∀ (fuel : Nat) (b : Wd) (f : Int), (6 - f).toNat < fuel → (0 ≤ f ∧ f ≤ 6) → (DG m b (dgF w i f.toNat (dgR w i.toNat 293))) → Jw (GM B) X (pG (fun x u => x = digw w ∧ sm m u)) 19 [some (.ref (ga (GM B) 0)), some (iv i), some (iv f)] [] b := by
            intro fuel
            induction fuel with
            | zero => intro b f hfuel; exact absurd hfuel (Nat.not_lt_zero _)
            | succ fuel ih19 =>
                intro b f hfuel f0 hb
                have Mb : RM w b := sm_RM hb.1 hM
                refine jr_iload_n F dX8_digest_19 rfl ?_
                refine jr_bipush F dX8_digest_20 (by decide) ?_
                refine jr_icmp_ge (tgt := 42) F dX8_digest_22 (by decide) (fun c22 => ?_) (fun c22 => ?_) (by omega) (by omega)
                · skip
                  refine jr_aload_n F dX8_digest_42 rfl ?_
                  refine jr_aload_n F dX8_digest_43 rfl ?_
                  refine jr_getR (t := 7) F dX8_digest_44 fg_X8_28 (Nat.le_of_ble_eq_true rfl) rfl rfl ?_
                  refine jr_iload_n F dX8_digest_47 rfl ?_
                  refine jr_iald F dX8_digest_48 (Nat.le_of_ble_eq_true rfl) rfl (by omega) (fun q48 => ?_) (by omega) (by omega)
                  have v48 : b 7 (i) = (td w i) := (rmt Mb (r := i))
                  rw [v48] at q48
                  refine jr_ti v48 ?_
                  refine jr_i2l F dX8_digest_49 (by omega) ?_
                  refine jr_vVx F dX8_digest_50 cv_X8_260 (c_X8_mix) (Nat.le_of_ble_eq_true rfl) rfl rfl rfl rfl (Nat.le_of_ble_eq_true rfl) (Nat.le_of_ble_eq_true rfl) rfl (Nat.le_of_ble_eq_true rfl) (fun w50 e50 => ?_)
                  refine jr_iinc F dX8_digest_53 rfl (Nat.le_of_ble_eq_true rfl) rfl ?_
                  refine jr_goto (tgt := 9) F dX8_digest_56 (by decide) ?_
                  exact jr_sub (ih9 _ (i + 1) (by omega) (by omega) (by rw [e50]; exact DG_e (DG_s hb) (by rw [dgR_s i0.1]; rw [show f = 6 by omega]; rfl))) ⟨rfl, rfl, trivial⟩
                · skip
                  refine jr_aload_n F dX8_digest_25 rfl ?_
                  refine jr_aload_n F dX8_digest_26 rfl ?_
                  have ri := i1.2 i (by omega) (by omega)
                  have rf := ri.1.2.2 f (by omega) (by omega)
                  refine jr_iload_n F dX8_digest_27 rfl ?_
                  refine jr_iload_n F dX8_digest_28 rfl ?_
                  refine jr_vI F dX8_digest_29 cv_X8_106 (c_X8_aboutOf Mb (by omega) (by omega)) (Nat.le_of_ble_eq_true rfl) rfl rfl rfl rfl (Nat.le_of_ble_eq_true rfl) (Nat.le_of_ble_eq_true rfl) rfl (Nat.le_of_ble_eq_true rfl) ?_
                  refine jr_i2l F dX8_digest_32 (by omega) ?_
                  refine jr_vVx F dX8_digest_33 cv_X8_260 (c_X8_mix) (Nat.le_of_ble_eq_true rfl) rfl rfl rfl rfl (Nat.le_of_ble_eq_true rfl) (Nat.le_of_ble_eq_true rfl) rfl (Nat.le_of_ble_eq_true rfl) (fun w33 e33 => ?_)
                  refine jr_iinc F dX8_digest_36 rfl (Nat.le_of_ble_eq_true rfl) rfl ?_
                  refine jr_goto (tgt := 19) F dX8_digest_39 (by decide) ?_
                  exact jr_sub (ih19 _ (f + 1) (by omega) (by omega) (by rw [e33]; exact DG_e (DG_s hb) (by rw [dgF_s f0.1]))) ⟨rfl, rfl, rfl, trivial⟩
          exact jr_sub (L19 _ _ 0 (Nat.lt_succ_self _) (by omega) ha) ⟨rfl, rfl, rfl, trivial⟩
  exact jr_sub (L9 _ _ 0 (Nat.lt_succ_self _) (by omega) (by rw [e4]; exact ⟨⟨fun c p q => up_cell (by omega), rfl, rfl, rfl, rfl, rfl⟩, rfl⟩)) ⟨rfl, rfl, trivial⟩

