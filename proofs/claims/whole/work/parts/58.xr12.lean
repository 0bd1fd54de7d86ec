set_option maxRecDepth 100000 in
set_option maxHeartbeats 4000000 in
theorem c_X8_solve {B : Bs} {w m : Wd} {s e b wi : Int} (hM : RM w m) (hI : IM w) (hs : s = 0 ∨ s = 1) (he : 0 ≤ e ∧ e ≤ 9) (hb : 0 ≤ b ∧ b ≤ 1000) (hwi : -1 ≤ wi ∧ wi ≤ 5) (hkb : KB w e b wi) : Sp (GM B) 4 yX8_solve cX8_solve 9 (Option.none : Option FieldType) [.ref (ga (GM B) (0)), iv (s), iv (e), iv (b), iv (wi)] m (pU (fun u => ws m u ∧ SVS w u s e b wi)) := by
  refine Sp.of (by decide) (Nat.le_of_ble_eq_true rfl) (fun X F => ?_)
  obtain ⟨⟨i1, i2, i3, i4, i5⟩, ⟨i6, i7⟩, i8, i9, i10, ⟨i11, i12⟩, i13⟩ := id hI
  have n10 := i1.1
  have n8 := i3.1
  have hL := KB_L hI hkb
  show Jw (GM B) X _ 0 [some (.ref (ga (GM B) (0))), some (iv (s)), some (iv (e)), some (iv (b)), some (iv (wi))] [] m
  refine jr_aload_n F dX8_solve_0 rfl ?_
  refine jr_iconst F dX8_solve_1 ?_
  refine jr_putZx F dX8_solve_2 fp_X8_201 (Nat.le_of_ble_eq_true rfl) rfl rfl (by omega) (fun w2 e2 => ?_)
  refine jr_iconst F dX8_solve_5 ?_
  refine jr_istore F dX8_solve_6 (Nat.le_of_ble_eq_true rfl) rfl ?_
  have L8 : ∀ (fuel : Nat) (u : Wd) (i : Int), (w 1 3 - i).toNat < fuel → (0 ≤ i ∧ i ≤ w 1 3) → (ws m u) → (CNT w u s i) → Jw (GM B) X (pU (fun u => ws m u ∧ SVS w u s e b wi)) 8 [some (.ref (ga (GM B) 0)), some (iv s), some (iv e), some (iv b), some (iv wi), some (iv i)] [] u := by
    intro fuel
    induction fuel with
    | zero => intro u i hfuel; exact absurd hfuel (Nat.not_lt_zero _)
    | succ fuel ih8 =>
        intro u i hfuel i0 hu hn
        have hMu : RM w u := ws_RM hu hM
        refine jr_iload F dX8_solve_8 rfl ?_
        refine jr_aload_n F dX8_solve_10 rfl ?_
        refine jr_getIx F (w 1 3) dX8_solve_11 fg_X8_84 (Nat.le_of_ble_eq_true rfl) rfl rfl ((show u 0 0 = (w 1 3) from rn0 hMu)) (fun q11 => ?_)
        refine jr_icmp_ge (tgt := 57) F dX8_solve_14 (by decide) (fun c14 => ?_) (fun c14 => ?_) (by omega) (by omega)
        · skip
          refine jr_iconst F dX8_solve_57 ?_
          refine jr_istore F dX8_solve_58 (Nat.le_of_ble_eq_true rfl) rfl ?_
          have L60 : ∀ (fuel : Nat) (x : Wd) (c : Int), (72 - c).toNat < fuel → (0 ≤ c ∧ c ≤ 72) → (ws m x) → (∀ r : Int, 0 ≤ r → r < w 1 3 → x 20 r = cntw w s r ∧ (cntw w s r = 0 ∨ cntw w s r = 1)) → (ACC w x s e b wi c) → Jw (GM B) X (pU (fun u => ws m u ∧ SVS w u s e b wi)) 60 [some (.ref (ga (GM B) 0)), some (iv s), some (iv e), some (iv b), some (iv wi), some (iv c)] [] x := by
            intro fuel
            induction fuel with
            | zero => intro x c hfuel; exact absurd hfuel (Nat.not_lt_zero _)
            | succ fuel ih60 =>
                intro x c hfuel c0 hx hk hA
                have hMx : RM w x := ws_RM hx hM
                refine jr_iload F dX8_solve_60 rfl ?_
                refine jr_bipush F dX8_solve_62 (by decide) ?_
                refine jr_icmp_ge (tgt := 223) F dX8_solve_64 (by decide) (fun c64 => ?_) (fun c64 => ?_) (by omega) (by omega)
                · skip
                  obtain rfl : c = 72 := by omega
                  exact jr_vret F dX8_solve_223 ⟨rfl, hx, ACC_S hI hs hkb hA⟩
                · skip
                  refine jr_aload_n F dX8_solve_67 rfl ?_
                  refine jr_iload_n F dX8_solve_68 rfl ?_
                  refine jr_iload F dX8_solve_69 rfl ?_
                  refine jr_vB F dX8_solve_71 cv_X8_204 (c_X8_layChoice (K := (cntw w s)) hMx i1 he (by omega) hk) (Nat.le_of_ble_eq_true rfl) rfl rfl rfl rfl (Nat.le_of_ble_eq_true rfl) (Nat.le_of_ble_eq_true rfl) rfl (Nat.le_of_ble_eq_true rfl) (fun w71 h71 => ?_)
                  refine jr_istore F dX8_solve_74 (Nat.le_of_ble_eq_true rfl) rfl ?_
                  refine jr_iconst F dX8_solve_76 ?_
                  refine jr_istore F dX8_solve_77 (Nat.le_of_ble_eq_true rfl) rfl ?_
                  have L79 : ∀ (fuel : Nat) (y : Wd) (t : Int), (w 5 3 - t).toNat < fuel → (0 ≤ t ∧ t ≤ w 5 3) → (c19 x y) → (STn w y s e c b t) → Jw (GM B) X (pU (fun u => ws m u ∧ SVS w u s e b wi)) 79 [some (.ref (ga (GM B) 0)), some (iv s), some (iv e), some (iv b), some (iv wi), some (iv c), some (iv (bi (VC w e c))), some (iv t)] [] y := by
                    intro fuel
                    induction fuel with
                    | zero => intro y t hfuel; exact absurd hfuel (Nat.not_lt_zero _)
                    | succ fuel ih79 =>
                        intro y t hfuel t0 hy hS
                        have hMy : RM w y := c19_RM hy hMx
                        have cbR := cb_R b t
                        refine jr_iload F dX8_solve_79 rfl ?_
                        refine jr_aload_n F dX8_solve_81 rfl ?_
                        refine jr_getIx F (w 5 3) dX8_solve_82 fg_X8_122 (Nat.le_of_ble_eq_true rfl) rfl rfl ((show y 0 8 = (w 5 3) from rn8 hMy)) (fun q82 => ?_)
                        refine jr_icmp_ge (tgt := 117) F dX8_solve_85 (by decide) (fun c85 => ?_) (fun c85 => ?_) (by omega) (by omega)
                        · skip
                          have y14 : y 14 = m 14 := by rw [hy 14 (by decide)]; exact hx.1.1 14 (by decide) (by decide)
                          refine jr_iload F dX8_solve_117 rfl ?_
                          refine jr_ifeq_b (tgt := 200) F dX8_solve_119 (by decide) (fun c119 => ?_) (fun c119 => ?_)
                          · skip
                            have hz := hy
                            have hno : ¬ (VC w e c ∧ ∃ v, SC w e (cntw w s) c b wi v) := fun q => c119 q.1
                            refine jr_iload F dX8_solve_200 rfl ?_
                            refine jr_ifeq_b (tgt := 217) F dX8_solve_202 (by decide) (fun c202 => ?_) (fun c202 => ?_)
                            · skip
                              try have hno : ¬ (VC w e c ∧ ∃ v, SC w e (cntw w s) c b wi v) := fun q => c209 (by obtain ⟨v, g⟩ := q.2; exact ⟨v, (hQ v).mpr g⟩)
                              refine jr_iinc F dX8_solve_217 rfl (Nat.le_of_ble_eq_true rfl) rfl ?_
                              refine jr_goto (tgt := 60) F dX8_solve_220 (by decide) ?_
                              first | exact jr_sub (ih60 _ (c + 1) (by omega) (by omega) (by rw [hu212]; exact ws_30 (ws_t hx (ws_t (c19_ws hz) (tk_ws hx212))) _) (fun r a b => by rw [hu212, up_cell (by decide), hx212.1 20 (by decide) (by decide), hz 20 (by decide)]; exact hk r a b) (by rw [hu212]; exact ACC_y c0.1 n10.2 hA c119 (by rw [hz 0 (by decide)]) (hz 21 (by decide)) (hz 22 (by decide)) cl.1 (fun v => (cl.2.1 v).trans (hQ v)) hx212)) ⟨rfl, rfl, rfl, rfl, rfl, rfl, trivial⟩ | first | exact jr_sub (ih60 _ (c + 1) (by omega) (by omega) (ws_t hx (c19_ws hz)) (fun r a b => by rw [hz 20 (by decide)]; exact hk r a b) (ACC_n c0.1 hA hno (by rw [hz 0 (by decide)]) (hz 21 (by decide)) (hz 22 (by decide)))) ⟨rfl, rfl, rfl, rfl, rfl, rfl, trivial⟩
                            · exact absurd c202 c119
                          · skip
                            refine jr_iload F dX8_solve_122 rfl ?_
                            refine jr_iconst F dX8_solve_124 ?_
                            refine jr_icmp_eq (tgt := 200) F dX8_solve_125 (by decide) (fun c125 => ?_) (fun c125 => ?_) (by omega) (by omega)
                            · skip
                              obtain rfl : t = w 5 3 := by omega
                              have hB := hS.1
                              have hQ : ∀ v, Sat 11 (mm y) v ↔ SC w e (cntw w s) c b wi v := fun v => (hS.2 v).trans ⟨fun q => ⟨q, fun z => absurd c125 z⟩, fun q => q.1⟩
                              have hz0 := hy
                              refine jr_iload F dX8_solve_200 rfl ?_
                              refine jr_ifeq_b (tgt := 217) F dX8_solve_202 (by decide) (fun c202 => ?_) (fun c202 => ?_)
                              · exact absurd c119 c202
                              · skip
                                refine jr_aload_n F dX8_solve_205 rfl ?_
                                refine jr_vB F dX8_solve_206 cv_X8_211 (c_X8_closeWays hB) (Nat.le_of_ble_eq_true rfl) rfl rfl rfl rfl (Nat.le_of_ble_eq_true rfl) (Nat.le_of_ble_eq_true rfl) rfl (Nat.le_of_ble_eq_true rfl) (fun w206 h206 => ?_)
                                have hz : c19 x w206 := c19_t hz0 h206.1
                                have hM206 : RM w w206 := c19_RM hz hMx
                                refine jr_ifeq_b (tgt := 217) F dX8_solve_209 (by decide) (fun c209 => ?_) (fun c209 => ?_)
                                · skip
                                  try have hno : ¬ (VC w e c ∧ ∃ v, SC w e (cntw w s) c b wi v) := fun q => c209 (by obtain ⟨v, g⟩ := q.2; exact ⟨v, (hQ v).mpr g⟩)
                                  refine jr_iinc F dX8_solve_217 rfl (Nat.le_of_ble_eq_true rfl) rfl ?_
                                  refine jr_goto (tgt := 60) F dX8_solve_220 (by decide) ?_
                                  first | exact jr_sub (ih60 _ (c + 1) (by omega) (by omega) (by rw [hu212]; exact ws_30 (ws_t hx (ws_t (c19_ws hz) (tk_ws hx212))) _) (fun r a b => by rw [hu212, up_cell (by decide), hx212.1 20 (by decide) (by decide), hz 20 (by decide)]; exact hk r a b) (by rw [hu212]; exact ACC_y c0.1 n10.2 hA c119 (by rw [hz 0 (by decide)]) (hz 21 (by decide)) (hz 22 (by decide)) cl.1 (fun v => (cl.2.1 v).trans (hQ v)) hx212)) ⟨rfl, rfl, rfl, rfl, rfl, rfl, trivial⟩ | first | exact jr_sub (ih60 _ (c + 1) (by omega) (by omega) (ws_t hx (c19_ws hz)) (fun r a b => by rw [hz 20 (by decide)]; exact hk r a b) (ACC_n c0.1 hA hno (by rw [hz 0 (by decide)]) (hz 21 (by decide)) (hz 22 (by decide)))) ⟨rfl, rfl, rfl, rfl, rfl, rfl, trivial⟩
                                · skip
                                  have cl := h206.2 c209
                                  refine jr_aload_n F dX8_solve_212 rfl ?_
                                  refine jr_iload_n F dX8_solve_213 rfl ?_
                                  refine jr_vU F dX8_solve_214 cv_X8_215 (c_X8_take hM206 n10 (by omega) cl.2.2) (Nat.le_of_ble_eq_true rfl) rfl rfl rfl rfl (Nat.le_of_ble_eq_true rfl) (Nat.le_of_ble_eq_true rfl) rfl (Nat.le_of_ble_eq_true rfl) (fun w214 h214 => ?_)
                                  obtain ⟨x212, hx212, hu212⟩ := h214
                                  try have hno : ¬ (VC w e c ∧ ∃ v, SC w e (cntw w s) c b wi v) := fun q => c209 (by obtain ⟨v, g⟩ := q.2; exact ⟨v, (hQ v).mpr g⟩)
                                  refine jr_iinc F dX8_solve_217 rfl (Nat.le_of_ble_eq_true rfl) rfl ?_
                                  refine jr_goto (tgt := 60) F dX8_solve_220 (by decide) ?_
                                  first | exact jr_sub (ih60 _ (c + 1) (by omega) (by omega) (by rw [hu212]; exact ws_30 (ws_t hx (ws_t (c19_ws hz) (tk_ws hx212))) _) (fun r a b => by rw [hu212, up_cell (by decide), hx212.1 20 (by decide) (by decide), hz 20 (by decide)]; exact hk r a b) (by rw [hu212]; exact ACC_y c0.1 n10.2 hA c119 (by rw [hz 0 (by decide)]) (hz 21 (by decide)) (hz 22 (by decide)) cl.1 (fun v => (cl.2.1 v).trans (hQ v)) hx212)) ⟨rfl, rfl, rfl, rfl, rfl, rfl, trivial⟩ | first | exact jr_sub (ih60 _ (c + 1) (by omega) (by omega) (ws_t hx (c19_ws hz)) (fun r a b => by rw [hz 20 (by decide)]; exact hk r a b) (ACC_n c0.1 hA hno (by rw [hz 0 (by decide)]) (hz 21 (by decide)) (hz 22 (by decide)))) ⟨rfl, rfl, rfl, rfl, rfl, rfl, trivial⟩
                            · skip
                              have wz := hkb.2 c125
                              have ww := i4.2 wi (by omega) (by omega)
                              have wn := i10 wi (by omega) (by omega)
                              have a2 := ww.1.2.2 2 (by omega) (by omega)
                              have a4 := ww.1.2.2 4 (by omega) (by omega)
                              have a5 := ww.1.2.2 5 (by omega) (by omega)
                              refine jr_aload_n F dX8_solve_128 rfl ?_
                              refine jr_getR (t := 14) F dX8_solve_129 fg_X8_50 (Nat.le_of_ble_eq_true rfl) rfl rfl ?_
                              refine jr_iconst F dX8_solve_132 ?_
                              refine jr_iload F dX8_solve_133 rfl ?_
                              refine jr_imul F dX8_solve_135 ?_
                              refine jr_iconst F dX8_solve_136 ?_
                              refine jr_iadd F dX8_solve_137 ?_
                              refine jr_iald F dX8_solve_138 (Nat.le_of_ble_eq_true rfl) rfl (by omega) (fun q138 => ?_) (by omega) (by omega)
                              refine jr_ti (b := (wfa w wi 5)) (by rw [y14]; exact (rmW hM (by omega) (by omega)).2.2.2.2) ?_
                              refine jr_istore F dX8_solve_139 (Nat.le_of_ble_eq_true rfl) rfl ?_
                              refine jr_aload_n F dX8_solve_141 rfl ?_
                              refine jr_getR (t := 14) F dX8_solve_142 fg_X8_50 (Nat.le_of_ble_eq_true rfl) rfl rfl ?_
                              refine jr_iconst F dX8_solve_145 ?_
                              refine jr_iload F dX8_solve_146 rfl ?_
                              refine jr_imul F dX8_solve_148 ?_
                              refine jr_iconst F dX8_solve_149 ?_
                              refine jr_iadd F dX8_solve_150 ?_
                              refine jr_iald F dX8_solve_151 (Nat.le_of_ble_eq_true rfl) rfl (by omega) (fun q151 => ?_) (by omega) (by omega)
                              refine jr_ti (b := (wfa w wi 4)) (by rw [y14]; exact (rmW hM (by omega) (by omega)).2.2.2.1) ?_
                              refine jr_aload_n F dX8_solve_152 rfl ?_
                              refine jr_getR (t := 14) F dX8_solve_153 fg_X8_50 (Nat.le_of_ble_eq_true rfl) rfl rfl ?_
                              refine jr_iconst F dX8_solve_156 ?_
                              refine jr_iload F dX8_solve_157 rfl ?_
                              refine jr_imul F dX8_solve_159 ?_
                              refine jr_iconst F dX8_solve_160 ?_
                              refine jr_iadd F dX8_solve_161 ?_
                              refine jr_iald F dX8_solve_162 (Nat.le_of_ble_eq_true rfl) rfl (by omega) (fun q162 => ?_) (by omega) (by omega)
                              refine jr_ti (b := (wfa w wi 2)) (by rw [y14]; exact (rmW hM (by omega) (by omega)).2.1) ?_
                              refine jr_isub F dX8_solve_163 ?_
                              refine jr_istore F dX8_solve_164 (Nat.le_of_ble_eq_true rfl) rfl ?_
                              refine jr_aload_n F dX8_solve_166 rfl ?_
                              refine jr_aload_n F dX8_solve_167 rfl ?_
                              refine jr_getR (t := 14) F dX8_solve_168 fg_X8_50 (Nat.le_of_ble_eq_true rfl) rfl rfl ?_
                              refine jr_iconst F dX8_solve_171 ?_
                              refine jr_iload F dX8_solve_172 rfl ?_
                              refine jr_imul F dX8_solve_174 ?_
                              refine jr_iconst F dX8_solve_175 ?_
                              refine jr_iadd F dX8_solve_176 ?_
                              refine jr_iald F dX8_solve_177 (Nat.le_of_ble_eq_true rfl) rfl (by omega) (fun q177 => ?_) (by omega) (by omega)
                              refine jr_ti (b := (wfa w wi 3)) (by rw [y14]; exact (rmW hM (by omega) (by omega)).2.2.1) ?_
                              refine jr_aload_n F dX8_solve_178 rfl ?_
                              refine jr_getR (t := 14) F dX8_solve_179 fg_X8_50 (Nat.le_of_ble_eq_true rfl) rfl rfl ?_
                              refine jr_iconst F dX8_solve_182 ?_
                              refine jr_iload F dX8_solve_183 rfl ?_
                              refine jr_imul F dX8_solve_185 ?_
                              refine jr_iald F dX8_solve_186 (Nat.le_of_ble_eq_true rfl) rfl (by omega) (fun q186 => ?_) (by omega) (by omega)
                              refine jr_ti (b := (wfa w wi 1)) (by rw [y14]; exact (rmW hM (by omega) (by omega)).1) ?_
                              refine jr_iload F dX8_solve_187 rfl ?_
                              refine jr_iload F dX8_solve_189 rfl ?_
                              refine jr_isub F dX8_solve_191 ?_
                              refine jr_iload F dX8_solve_192 rfl ?_
                              refine jr_iload F dX8_solve_194 rfl ?_
                              refine jr_iadd F dX8_solve_196 ?_
                              refine jr_vVx F dX8_solve_197 cv_X8_193 (c_X8_bind (by omega) (by omega) (by omega) (by omega)) (Nat.le_of_ble_eq_true rfl) rfl rfl rfl rfl (Nat.le_of_ble_eq_true rfl) (Nat.le_of_ble_eq_true rfl) rfl (Nat.le_of_ble_eq_true rfl) (fun w197 e197 => ?_)
                              obtain rfl : t = w 5 3 := by omega
                              have wz := hkb.2 c125
                              have hB : MB (mm w197) := by rw [e197]; exact bdw_B (by omega) (by omega) (by omega) (by omega) (by omega) (by omega) (by omega) hS.1
                              have hQ : ∀ v, Sat 11 (mm w197) v ↔ SC w e (cntw w s) c b wi v := fun v => by rw [e197, bdw_S (by omega) (by omega) (by omega) (by omega) (by omega), hS.2 v]; exact ⟨fun q => ⟨q.1, fun _ => ⟨by have := q.2; omega, by have := q.2; omega⟩⟩, fun q => ⟨q.1, by have := q.2 c125; unfold WCc at this; omega⟩⟩
                              have hz0 : c19 x w197 := by rw [e197]; exact c19_t hy (bdw_c _ _ _ _ _)
                              refine jr_iload F dX8_solve_200 rfl ?_
                              refine jr_ifeq_b (tgt := 217) F dX8_solve_202 (by decide) (fun c202 => ?_) (fun c202 => ?_)
                              · exact absurd c119 c202
                              · skip
                                refine jr_aload_n F dX8_solve_205 rfl ?_
                                refine jr_vB F dX8_solve_206 cv_X8_211 (c_X8_closeWays hB) (Nat.le_of_ble_eq_true rfl) rfl rfl rfl rfl (Nat.le_of_ble_eq_true rfl) (Nat.le_of_ble_eq_true rfl) rfl (Nat.le_of_ble_eq_true rfl) (fun w206 h206 => ?_)
                                have hz : c19 x w206 := c19_t hz0 h206.1
                                have hM206 : RM w w206 := c19_RM hz hMx
                                refine jr_ifeq_b (tgt := 217) F dX8_solve_209 (by decide) (fun c209 => ?_) (fun c209 => ?_)
                                · skip
                                  try have hno : ¬ (VC w e c ∧ ∃ v, SC w e (cntw w s) c b wi v) := fun q => c209 (by obtain ⟨v, g⟩ := q.2; exact ⟨v, (hQ v).mpr g⟩)
                                  refine jr_iinc F dX8_solve_217 rfl (Nat.le_of_ble_eq_true rfl) rfl ?_
                                  refine jr_goto (tgt := 60) F dX8_solve_220 (by decide) ?_
                                  first | exact jr_sub (ih60 _ (c + 1) (by omega) (by omega) (by rw [hu212]; exact ws_30 (ws_t hx (ws_t (c19_ws hz) (tk_ws hx212))) _) (fun r a b => by rw [hu212, up_cell (by decide), hx212.1 20 (by decide) (by decide), hz 20 (by decide)]; exact hk r a b) (by rw [hu212]; exact ACC_y c0.1 n10.2 hA c119 (by rw [hz 0 (by decide)]) (hz 21 (by decide)) (hz 22 (by decide)) cl.1 (fun v => (cl.2.1 v).trans (hQ v)) hx212)) ⟨rfl, rfl, rfl, rfl, rfl, rfl, trivial⟩ | first | exact jr_sub (ih60 _ (c + 1) (by omega) (by omega) (ws_t hx (c19_ws hz)) (fun r a b => by rw [hz 20 (by decide)]; exact hk r a b) (ACC_n c0.1 hA hno (by rw [hz 0 (by decide)]) (hz 21 (by decide)) (hz 22 (by decide)))) ⟨rfl, rfl, rfl, rfl, rfl, rfl, trivial⟩
                                · skip
                                  have cl := h206.2 c209
                                  refine jr_aload_n F dX8_solve_212 rfl ?_
                                  refine jr_iload_n F dX8_solve_213 rfl ?_
                                  refine jr_vU F dX8_solve_214 cv_X8_215 (c_X8_take hM206 n10 (by omega) cl.2.2) (Nat.le_of_ble_eq_true rfl) rfl rfl rfl rfl (Nat.le_of_ble_eq_true rfl) (Nat.le_of_ble_eq_true rfl) rfl (Nat.le_of_ble_eq_true rfl) (fun w214 h214 => ?_)
                                  obtain ⟨x212, hx212, hu212⟩ := h214
                                  try have hno : ¬ (VC w e c ∧ ∃ v, SC w e (cntw w s) c b wi v) := fun q => c209 (by obtain ⟨v, g⟩ := q.2; exact ⟨v, (hQ v).mpr g⟩)
                                  refine jr_iinc F dX8_solve_217 rfl (Nat.le_of_ble_eq_true rfl) rfl ?_
                                  refine jr_goto (tgt := 60) F dX8_solve_220 (by decide) ?_
                                  first | exact jr_sub (ih60 _ (c + 1) (by omega) (by omega) (by rw [hu212]; exact ws_30 (ws_t hx (ws_t (c19_ws hz) (tk_ws hx212))) _) (fun r a b => by rw [hu212, up_cell (by decide), hx212.1 20 (by decide) (by decide), hz 20 (by decide)]; exact hk r a b) (by rw [hu212]; exact ACC_y c0.1 n10.2 hA c119 (by rw [hz 0 (by decide)]) (hz 21 (by decide)) (hz 22 (by decide)) cl.1 (fun v => (cl.2.1 v).trans (hQ v)) hx212)) ⟨rfl, rfl, rfl, rfl, rfl, rfl, trivial⟩ | first | exact jr_sub (ih60 _ (c + 1) (by omega) (by omega) (ws_t hx (c19_ws hz)) (fun r a b => by rw [hz 20 (by decide)]; exact hk r a b) (ACC_n c0.1 hA hno (by rw [hz 0 (by decide)]) (hz 21 (by decide)) (hz 22 (by decide)))) ⟨rfl, rfl, rfl, rfl, rfl, rfl, trivial⟩
                        · skip
                          refine jr_iload F dX8_solve_88 rfl ?_
                          refine jr_ifeq_b (tgt := 117) F dX8_solve_90 (by decide) (fun c90 => ?_) (fun c90 => ?_)
                          · skip
                            have y14 : y 14 = m 14 := by rw [hy 14 (by decide)]; exact hx.1.1 14 (by decide) (by decide)
                            refine jr_iload F dX8_solve_117 rfl ?_
                            refine jr_ifeq_b (tgt := 200) F dX8_solve_119 (by decide) (fun c119 => ?_) (fun c119 => ?_)
                            · skip
                              have hz := hy
                              have hno : ¬ (VC w e c ∧ ∃ v, SC w e (cntw w s) c b wi v) := fun q => c119 q.1
                              refine jr_iload F dX8_solve_200 rfl ?_
                              refine jr_ifeq_b (tgt := 217) F dX8_solve_202 (by decide) (fun c202 => ?_) (fun c202 => ?_)
                              · skip
                                try have hno : ¬ (VC w e c ∧ ∃ v, SC w e (cntw w s) c b wi v) := fun q => c209 (by obtain ⟨v, g⟩ := q.2; exact ⟨v, (hQ v).mpr g⟩)
                                refine jr_iinc F dX8_solve_217 rfl (Nat.le_of_ble_eq_true rfl) rfl ?_
                                refine jr_goto (tgt := 60) F dX8_solve_220 (by decide) ?_
                                first | exact jr_sub (ih60 _ (c + 1) (by omega) (by omega) (by rw [hu212]; exact ws_30 (ws_t hx (ws_t (c19_ws hz) (tk_ws hx212))) _) (fun r a b => by rw [hu212, up_cell (by decide), hx212.1 20 (by decide) (by decide), hz 20 (by decide)]; exact hk r a b) (by rw [hu212]; exact ACC_y c0.1 n10.2 hA c119 (by rw [hz 0 (by decide)]) (hz 21 (by decide)) (hz 22 (by decide)) cl.1 (fun v => (cl.2.1 v).trans (hQ v)) hx212)) ⟨rfl, rfl, rfl, rfl, rfl, rfl, trivial⟩ | first | exact jr_sub (ih60 _ (c + 1) (by omega) (by omega) (ws_t hx (c19_ws hz)) (fun r a b => by rw [hz 20 (by decide)]; exact hk r a b) (ACC_n c0.1 hA hno (by rw [hz 0 (by decide)]) (hz 21 (by decide)) (hz 22 (by decide)))) ⟨rfl, rfl, rfl, rfl, rfl, rfl, trivial⟩
                              · exact absurd c202 c119
                            · exact absurd c119 c90
                          · skip
                            have tt := i3.2 t (by omega) (by omega)
                            refine jr_iload_n F dX8_solve_93 rfl ?_
                            refine jr_iload F dX8_solve_94 rfl ?_
                            refine jr_ishr F dX8_solve_96 ?_
                            refine jr_iconst F dX8_solve_97 ?_
                            refine jr_iand F dX8_solve_98 ?_
                            refine jr_top (z := (cb b t)) F (b_bit (by omega) (by omega)) ?_
                            refine jr_iconst F dX8_solve_99 ?_
                            refine jr_icmp_ne (tgt := 111) F dX8_solve_100 (by decide) (fun c100 => ?_) (fun c100 => ?_) (by omega) (by omega)
                            · skip
                              refine jr_iinc F dX8_solve_111 rfl (Nat.le_of_ble_eq_true rfl) rfl ?_
                              refine jr_goto (tgt := 79) F dX8_solve_114 (by decide) ?_
                              first | exact jr_sub (ih79 _ (t + 1) (by omega) (by omega) (c19_t hy h108.1) (STn_y t0.1 hS (Classical.byContradiction (fun q => by have := (bi_eq0 (P := inb b t)).mpr q; unfold cb at c100; omega)) h108)) ⟨rfl, rfl, rfl, rfl, rfl, rfl, rfl, rfl, trivial⟩ | exact jr_sub (ih79 _ (t + 1) (by omega) (by omega) hy (STn_n hS (fun q => by have := (bi_eq1 (P := inb b t)).mpr q; unfold cb at c100; omega))) ⟨rfl, rfl, rfl, rfl, rfl, rfl, rfl, rfl, trivial⟩
                            · skip
                              refine jr_aload_n F dX8_solve_103 rfl ?_
                              refine jr_iload F dX8_solve_104 rfl ?_
                              refine jr_iload F dX8_solve_106 rfl ?_
                              refine jr_vU F dX8_solve_108 cv_X8_207 (c_X8_layTie hMy tt.1 (by omega) tt.2.1 (by omega) (by have := i9 t (by omega) (by omega); omega)) (Nat.le_of_ble_eq_true rfl) rfl rfl rfl rfl (Nat.le_of_ble_eq_true rfl) (Nat.le_of_ble_eq_true rfl) rfl (Nat.le_of_ble_eq_true rfl) (fun w108 h108 => ?_)
                              refine jr_iinc F dX8_solve_111 rfl (Nat.le_of_ble_eq_true rfl) rfl ?_
                              refine jr_goto (tgt := 79) F dX8_solve_114 (by decide) ?_
                              first | exact jr_sub (ih79 _ (t + 1) (by omega) (by omega) (c19_t hy h108.1) (STn_y t0.1 hS (Classical.byContradiction (fun q => by have := (bi_eq0 (P := inb b t)).mpr q; unfold cb at c100; omega)) h108)) ⟨rfl, rfl, rfl, rfl, rfl, rfl, rfl, rfl, trivial⟩ | exact jr_sub (ih79 _ (t + 1) (by omega) (by omega) hy (STn_n hS (fun q => by have := (bi_eq1 (P := inb b t)).mpr q; unfold cb at c100; omega))) ⟨rfl, rfl, rfl, rfl, rfl, rfl, rfl, rfl, trivial⟩
                  exact jr_sub (L79 _ _ 0 (Nat.lt_succ_self _) (by omega) h71.1 ⟨h71.2.1, fun v => (h71.2.2 v).trans ⟨fun q => ⟨q, fun t a b => by omega⟩, fun q => q.1⟩⟩) ⟨rfl, rfl, rfl, rfl, rfl, rfl, rfl, rfl, trivial⟩
          exact jr_sub (L60 _ _ 0 (Nat.lt_succ_self _) (by omega) hu (fun r a b => ⟨(hn.2 r a (by omega)).1, IM_K hI hs r⟩) (ACC_0 hn.1 (fun r a b => (hn.2 r a (by omega)).2))) ⟨rfl, rfl, rfl, rfl, rfl, rfl, trivial⟩
        · skip
          refine jr_aload_n F dX8_solve_17 rfl ?_
          refine jr_getR (t := 20) F dX8_solve_18 fg_X8_69 (Nat.le_of_ble_eq_true rfl) rfl rfl ?_
          refine jr_iload F dX8_solve_21 rfl ?_
          refine jr_aload_n F dX8_solve_23 rfl ?_
          refine jr_iload_n F dX8_solve_24 rfl ?_
          refine jr_iload F dX8_solve_25 rfl ?_
          refine jr_vE F dX8_solve_27 cv_X8_182 (c_X8_countsOf hMu i11 i12 i13 hs (by omega)) (Nat.le_of_ble_eq_true rfl) rfl rfl rfl rfl (Nat.le_of_ble_eq_true rfl) (Nat.le_of_ble_eq_true rfl) rfl (Nat.le_of_ble_eq_true rfl) (fun r27 w27 h27 => ?_)
          have u27 : ws m w27 := ws_t hu (wk_ws h27.2)
          have k27 := IM_K hI hs i
          rw [h27.1]
          refine jr_iastx F dX8_solve_30 (Nat.le_of_ble_eq_true rfl) rfl (by omega) (fun w30 e30 => ?_) (by omega) (by omega) (by omega)
          refine jr_aload_n F dX8_solve_31 rfl ?_
          refine jr_getR (t := 21) F dX8_solve_32 fg_X8_72 (Nat.le_of_ble_eq_true rfl) rfl rfl ?_
          refine jr_iload F dX8_solve_35 rfl ?_
          refine jr_sipush F dX8_solve_37 (by decide) ?_
          refine jr_iastx F dX8_solve_40 (Nat.le_of_ble_eq_true rfl) rfl (by omega) (fun w40 e40 => ?_) (by omega) (by omega) (by omega)
          refine jr_aload_n F dX8_solve_41 rfl ?_
          refine jr_getR (t := 22) F dX8_solve_42 fg_X8_75 (Nat.le_of_ble_eq_true rfl) rfl rfl ?_
          refine jr_iload F dX8_solve_45 rfl ?_
          refine jr_sipush F dX8_solve_47 (by decide) ?_
          refine jr_iastx F dX8_solve_50 (Nat.le_of_ble_eq_true rfl) rfl (by omega) (fun w50 e50 => ?_) (by omega) (by omega) (by omega)
          refine jr_iinc F dX8_solve_51 rfl (Nat.le_of_ble_eq_true rfl) rfl ?_
          refine jr_goto (tgt := 8) F dX8_solve_54 (by decide) ?_
          exact jr_sub (ih8 _ (i + 1) (by omega) (by omega) (by subst e50; subst e40; subst e30; exact ws_up (ws_up (ws_up u27 (by omega) _ _) (by omega) _ _) (by omega) _ _) (by subst e50; subst e40; subst e30; exact CNT_s (CNT_k hn h27.2))) ⟨rfl, rfl, rfl, rfl, rfl, rfl, trivial⟩
  exact jr_sub (L8 _ _ 0 (Nat.lt_succ_self _) (by omega) (by rw [e2]; exact ws_30 (ws_r m) _) ⟨by rw [e2]; rfl, fun r a b => by omega⟩) ⟨rfl, rfl, rfl, rfl, rfl, rfl, trivial⟩

